public final class P15UntilTest {
    public static void main(String[] args) {
        SparkBoards x = Check.drawn("tHccc", ".....", ".....");
        int[] due = {-1, 0, 1, 2, 3};
        for (int column = 0; column < due.length; column++) {
            Check.due("until(" + column + ", 0)", x.until(column, 0), due[column]);
        }
        Check.due("an empty cell", x.until(2, 2), -1);
        SparkBoards ring = Check.drawn(".cc.", "t..c", ".Hc.");
        Check.due("a tail on a ring", ring.until(0, 1), 5);
        Check.unchanged(ring, "until(0, 1)", () -> ring.until(0, 1));
        bound();
        int[][] wrong = {{-1, 0}, {5, 0}, {0, -1}, {0, 3}, {Integer.MAX_VALUE, 0}, {0, Integer.MIN_VALUE}};
        for (int[] u : wrong) {
            Check.refused(x, "until", IndexOutOfBoundsException.class, () -> x.until(u[0], u[1]));
        }
        Check.end();
    }

    // Boards that were found by trying: one cell is a head at the latest step that is looked at,
    // and one a step behind it.
    private static void bound() {
        SparkBoards x = Check.drawn("cc..ccc.cc", "..ccc.cc.c", "cc.c.ccHcc", "cccccccctt", "..ccHc.ccc",
            "ccccccc...", "ctcccccccc", "tccccccc..", "c..c.ccccc", ".c.c.c.ccc");
        Check.due("150 steps", x.until(9, 4), 150);
        x = Check.drawn("cccc.c.ccc", "cHcccc.c..", "cHcccH.cc.", "c.ccHccccc", "tcccccc.c.",
            "c..ccccccc", ".ccccccccc", "c.ttc..ccc", "ccccc..ccc", "ct.ctcc..t");
        Check.due("151 steps", x.until(5, 9), -1);
        x.pass(1);
        Check.due("151 steps, a step later", x.until(5, 9), 150);
    }
}
