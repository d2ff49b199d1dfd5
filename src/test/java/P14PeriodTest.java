public final class P14PeriodTest {
    public static void main(String[] args) {
        duePeriod("an empty board", new SparkBoards(), 0, 1);
        duePeriod("copper alone", Check.drawn("ccc", "c.c", "ccc"), 0, 1);
        duePeriod("a ring of 6", Check.drawn(".cc.", "t..c", ".Hc."), 0, 6);
        duePeriod("a spark that dies out", Check.drawn("tHccc", ".....", "....."), 5, 1);
        duePeriod("a tail", Check.drawn("t..", "...", "..."), 1, 1);
        duePeriod("a ring that a line ends beside", Check.drawn(".cc......", "c..ccccHt", ".cc......"), 9, 1);
        longOnes();
        refuses();
        Check.end();
    }

    // A ring of n cells comes again behind n steps, so two of them behind the least common multiple.
    private static void longOnes() {
        duePeriod("6 and 14", rings(3, 7), 0, 42);
        duePeriod("10 and 12", rings(5, 6), 0, 60);
        duePeriod("12 and 14", rings(6, 7), 0, 84);
        duePeriod("14 and 16", rings(7, 8), -1, -1);
        // A spark that dies out at the end of a line is gone two steps behind its last one.
        duePeriod("12 and 14, 6 steps late", withLine(5), 6, 84);
        duePeriod("12 and 14, 7 steps late", withLine(6), -1, -1);
    }

    private static SparkBoards withLine(int end) {
        SparkBoards x = rings(6, 7);
        x.line(0, 9, end, 9);
        x.spark(1, 9, 0);
        return x;
    }

    private static SparkBoards rings(int h, int otherH) {
        SparkBoards x = new SparkBoards();
        x.setBoard(10, 10);
        x.ring(0, 0, 4, h);
        x.spark(2, 0, 0);
        x.ring(6, 0, 4, otherH);
        x.spark(8, 0, 0);
        return x;
    }

    private static void duePeriod(String board, SparkBoards x, int first, int more) {
        Check.due("period(0) of " + board, x.period(0), first);
        Check.due("period(1) of " + board, x.period(1), more);
        Check.unchanged(x, "period(0) of " + board, () -> x.period(0));
    }

    private static void refuses() {
        SparkBoards x = Check.drawn("tHccc", ".....", ".....");
        int[] wrong = {-1, 2, Integer.MAX_VALUE, Integer.MIN_VALUE};
        for (int what : wrong) {
            Check.refused(x, "period(" + what + ")", IndexOutOfBoundsException.class, () -> x.period(what));
        }
    }
}
