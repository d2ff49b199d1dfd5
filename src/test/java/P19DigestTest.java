public final class P19DigestTest {
    public static void main(String[] args) {
        SparkBoards x = new SparkBoards();
        dueDigest("a new object", x, 0);
        Check.draw(x, "tHccc", ".....", "c.c.c");
        dueDigest("with cells", x, 0);
        x.lamp(2, 0);
        x.lamp(4, 0);
        dueDigest("with lamps", x, 0);
        x.pass(3);
        dueDigest("with steps", x, 3);
        x.setBoard(10, 10);
        dueDigest("on another board", x, 3);
        Check.due("two alike", new SparkBoards().digest(), new SparkBoards().digest());
        Check.unchanged(x, "digest()", () -> x.digest());
        Check.end();
    }

    private static void dueDigest(String when, SparkBoards x, long heads) {
        long d = 1723;
        for (int what = 0; what <= 9; what++) {
            d = 31 * d + x.count(what);
        }
        for (int number = 0; number < x.count(1) * x.count(2); number++) {
            for (int what = 0; what <= 4; what++) {
                d = 31 * d + x.told(number % x.count(1), number / x.count(1), what);
            }
        }
        for (int lamp = 0; lamp < x.count(8); lamp++) {
            for (int what = 0; what <= 3; what++) {
                d = 31 * d + x.about(lamp, what);
            }
        }
        Check.due("digest() of " + when, x.digest(), 31 * d + heads);
    }
}
