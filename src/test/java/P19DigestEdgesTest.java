import java.math.BigInteger;

public final class P19DigestEdgesTest {
    public static void main(String[] args) {
        numbersWorkedOutElsewhere();
        wrapsAround();
        withoutAndWithFiveLamps();
        headsOfAllStepsAreTheLast();
        everyNumberCounts();
        Check.end();
    }

    // Worked out from the document by a program in another language.
    private static void numbersWorkedOutElsewhere() {
        Check.due("a new object", new SparkBoards().digest(), 8870499433836769123L);
        Check.due("the smallest board, empty", Check.full(3, 3, '.').digest(), -831145738608568997L);
        Check.due("the smallest board, of heads", Check.full(3, 3, 'H').digest(), 3945825589444012286L);
        Check.due("the largest board, of copper", Check.full(10, 10, 'c').digest(), 4341792737087370526L);
        SparkBoards x = Check.full(3, 3, 'H');
        int[][] lamps = {{0, 0}, {2, 0}, {0, 2}, {2, 2}, {1, 1}};
        for (int[] lamp : lamps) {
            x.lamp(lamp[0], lamp[1]);
        }
        x.pass(1);
        Check.due("tails, with five lamps", x.digest(), 8338566704632238059L);
        x = Check.drawn("tHccc", ".....", "c.c.c");
        x.lamp(2, 0);
        x.lamp(4, 0);
        x.pass(1);
        Check.due("a spark, with a lamp that is lit", x.digest(), 8693988305960100812L);
    }

    // "which wraps around as a 64-bit integer": the low 64 bits of the number without any bound
    private static void wrapsAround() {
        boolean below = false;
        boolean above = false;
        for (int[] side : Check.sides()) {
            for (char kind : new char[] {'.', 'c', 'H', 't'}) {
                SparkBoards x = Check.full(side[0], side[1], kind);
                dueDigest(x, 0);
                below |= x.digest() < 0;
                above |= x.digest() > 0;
            }
        }
        Check.due("some are below 0, and some above", below && above ? 1 : 0, 1);
    }

    private static void withoutAndWithFiveLamps() {
        SparkBoards x = Check.drawn("tHccc", ".....", ".....");
        dueDigest(x, 0);
        for (int lamp = 0; lamp < 5; lamp++) {
            x.lamp(4 - lamp, lamp % 3);
            dueDigest(x, 0);
        }
        x.pass(1);
        dueDigest(x, 1);
        x.pass(100);
        dueDigest(x, 3);
        x.setBoard(10, 3);
        dueDigest(x, 3);
    }

    // "heads behind all steps that went by, added"
    private static void headsOfAllStepsAreTheLast() {
        SparkBoards x = Check.drawn("tHccc", ".....", ".....");
        SparkBoards y = new SparkBoards();
        x.pass(4);
        y.pass(4);
        x.setBoard(4, 5);
        y.setBoard(4, 5);
        Check.due("3 heads more", x.digest() - y.digest(), 3);
    }

    private static void everyNumberCounts() {
        SparkBoards x = Check.full(10, 10, 't');
        long before = x.digest();
        for (int[] cell : Check.corners(10, 10)) {
            x.set(cell[0], cell[1], 1);
            Check.due("another cell", x.digest() == before ? 1 : 0, 0);
            x.set(cell[0], cell[1], 3);
            Check.due("the same cell again", x.digest(), before);
        }
        x.lamp(0, 0);
        Check.due("a lamp", x.digest() == before ? 1 : 0, 0);
    }

    private static void dueDigest(SparkBoards x, long heads) {
        BigInteger d = BigInteger.valueOf(1723);
        for (int what = 0; what <= 9; what++) {
            d = with(d, x.count(what));
        }
        for (int row = 0; row < x.count(2); row++) {
            for (int column = 0; column < x.count(1); column++) {
                for (int what = 0; what <= 4; what++) {
                    d = with(d, x.told(column, row, what));
                }
            }
        }
        for (int lamp = 0; lamp < x.count(8); lamp++) {
            for (int what = 0; what <= 3; what++) {
                d = with(d, x.about(lamp, what));
            }
        }
        String before = Check.all(x);
        Check.due("digest()", x.digest(), with(d, heads).longValue());
        Check.dueText("nothing is changed by digest()", Check.all(x), before);
    }

    private static BigInteger with(BigInteger d, long number) {
        return d.multiply(BigInteger.valueOf(31)).add(BigInteger.valueOf(number));
    }
}
