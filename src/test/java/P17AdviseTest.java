public final class P17AdviseTest {
    public static void main(String[] args) {
        SparkBoards line = Check.drawn("......", "tHcccc", "......");
        // Any cell ahead of the head would do, so it is the smallest that the head comes to by then.
        for (int steps = 1; steps <= 4; steps++) {
            Check.due("a line, advise(" + steps + ")", line.advise(steps), 8);
        }
        Check.due("the first cell", Check.drawn("cHt", "...", "...").advise(1), 0);
        Check.due("the last cell", Check.drawn("...", "...", "tHc").advise(1), 8);
        fewest();
        none();
        SparkBoards x = Check.drawn("tHccc", "..c..", "cc.cc");
        Check.unchanged(x, "advise(3)", () -> x.advise(3));
        int[] steps = {0, -1, 5, Integer.MAX_VALUE, Integer.MIN_VALUE};
        for (int s : steps) {
            Check.refused(x, "advise(" + s + ")", IllegalArgumentException.class, () -> x.advise(s));
        }
        Check.end();
    }

    private static void fewest() {
        // A cut of the upper branch takes one head away, a cut of the stem behind it takes two.
        SparkBoards x = Check.drawn("....c..", "...c.cc", "tHc....", "...c.cc", "....c..");
        Check.due("advise(2)", x.advise(2), 16);
        // A cut of the upper wire takes one head away, a cut of the lower one's stem takes two.
        x = Check.drawn("tHccc", ".....", "...c.", "tHc..", "...c.");
        Check.due("advise(2), the fewest", x.advise(2), 17);
        Check.due("advise(1), the smallest", x.advise(1), 2);
        // A head and a tail are no copper, though it would be better without them.
        x = Check.drawn("Htc", "...", "cHt");
        Check.due("advise(1)", x.advise(1), 6);
    }

    private static void none() {
        Check.due("an empty board", new SparkBoards().advise(4), -1);
        Check.due("no spark", Check.drawn("ccc", "c.c", "ccc").advise(4), -1);
        Check.due("a spark that dies out", Check.drawn("tHc", "...", "...").advise(4), -1);
        Check.due("a head alone", Check.drawn("tH.", "...", "c.c").advise(1), -1);
        Check.due("copper beside 3 heads", Check.drawn("HcH", ".H.", "...").advise(1), -1);
        // Three heads meet at the middle and go out; a cut would let one through.
        SparkBoards x = Check.drawn("H...H", ".c.c.", "..c..", "..c..", "..H..");
        Check.due("more by a cut", x.advise(2), -1);
        Check.due("fewer by a cut", x.advise(1), 6);
    }
}
