public final class P13WayTest {
    public static void main(String[] args) {
        SparkBoards x = Check.drawn("cHt...c", "...c...", "cccc..c", "c.....c");
        Check.due("to itself", x.way(0, 0, 0, 0), 0);
        Check.due("to itself, empty", x.way(5, 0, 5, 0), -1);
        Check.due("to a neighbour", x.way(0, 0, 1, 0), 1);
        Check.due("over a corner", x.way(2, 0, 3, 1), 1);
        Check.due("round", x.way(0, 0, 0, 3), 6);
        Check.due("and back", x.way(0, 3, 0, 0), 6);
        Check.due("from an empty cell", x.way(4, 0, 0, 0), -1);
        Check.due("to an empty cell", x.way(0, 0, 4, 0), -1);
        Check.due("to another piece", x.way(0, 0, 6, 2), -1);
        Check.due("not round the edge", x.way(6, 0, 0, 0), -1);
        shortest();
        Check.unchanged(x, "way(0, 0, 0, 3)", () -> x.way(0, 0, 0, 3));
        int[][] wrong = {{-1, 0, 0, 0}, {7, 0, 0, 0}, {0, -1, 0, 0}, {0, 4, 0, 0}, {0, 0, -1, 0}, {0, 0, 7, 0},
            {0, 0, 0, -1}, {0, 0, 0, 4}, {Integer.MIN_VALUE, 0, 0, 0}, {0, 0, 0, Integer.MAX_VALUE}};
        for (int[] w : wrong) {
            Check.refused(x, "way", IndexOutOfBoundsException.class, () -> x.way(w[0], w[1], w[2], w[3]));
        }
        Check.end();
    }

    private static void shortest() {
        SparkBoards x = Check.drawn("ccccccccc", "c.......c", "c.ccccccc", "c........", "ccccccccc");
        Check.due("the long way is the only one", x.way(2, 2, 8, 4), 24);
        x.line(8, 2, 8, 4);
        Check.due("the short way", x.way(2, 2, 8, 4), 7);
    }
}
