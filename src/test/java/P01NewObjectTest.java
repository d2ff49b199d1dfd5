public final class P01NewObjectTest {
    public static void main(String[] args) {
        SparkBoards x = new SparkBoards();
        Check.duePicture("a new object", x, "........", "........", "........", "........", "........", "........");
        int[] counts = {0, 8, 6, 0, 0, 0, 0, 0, 0, 0};
        for (int what = 0; what < counts.length; what++) {
            Check.due("count(" + what + ")", x.count(what), counts[what]);
        }
        Check.dueDouble("mean()", x.mean(), 0.0);
        Check.refused(x, "about(0, 0)", IndexOutOfBoundsException.class, () -> x.about(0, 0));
        twoObjectsAreApart();
        Check.end();
    }

    private static void twoObjectsAreApart() {
        SparkBoards one = new SparkBoards();
        SparkBoards other = new SparkBoards();
        String fresh = Check.all(other);
        one.line(0, 0, 7, 0);
        one.spark(1, 0, 0);
        one.lamp(2, 0);
        one.pass(1);
        Check.dueText("the other object", Check.all(other), fresh);
    }
}
