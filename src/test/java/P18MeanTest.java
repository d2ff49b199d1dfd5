public final class P18MeanTest {
    public static void main(String[] args) {
        SparkBoards x = Check.drawn("tHccc", ".....", ".....");
        Check.dueDouble("without any step", x.mean(), 0.0);
        x.pass(1);
        Check.dueDouble("1 of 1", x.mean(), 1.0);
        x.pass(4);
        Check.dueDouble("3 of 5", x.mean(), 3.0 / 5.0);
        x.foresee(50, 4);
        Check.dueDouble("foreseen steps do not count", x.mean(), 3.0 / 5.0);
        x.setBoard(3, 3);
        Check.dueDouble("on whichever board", x.mean(), 3.0 / 5.0);
        Check.draw(x, "ccc", "cHc", "ccc");
        Check.dueDouble("heads that are set do not count", x.mean(), 3.0 / 5.0);
        x.pass(2);
        Check.dueDouble("11 of 7", x.mean(), 11.0 / 7.0);
        Check.unchanged(x, "mean()", () -> (long) x.mean());
        Check.end();
    }
}
