public final class P04LineTest {
    public static void main(String[] args) {
        ways();
        only();
        refuses();
        Check.end();
    }

    private static void ways() {
        int[][] ends = {{4, 2}, {4, 4}, {2, 4}, {0, 4}, {0, 2}, {0, 0}, {2, 0}, {4, 0}};
        int[][] middles = {{3, 2}, {3, 3}, {2, 3}, {1, 3}, {1, 2}, {1, 1}, {2, 1}, {3, 1}};
        for (int i = 0; i < ends.length; i++) {
            SparkBoards x = new SparkBoards();
            x.setBoard(5, 5);
            Check.due("line, direction " + i, x.line(2, 2, ends[i][0], ends[i][1]), 3);
            Check.due("its start", x.told(2, 2, 0), 1);
            Check.due("its middle", x.told(middles[i][0], middles[i][1], 0), 1);
            Check.due("its end", x.told(ends[i][0], ends[i][1], 0), 1);
            Check.due("copper", x.count(3), 3);
        }
        SparkBoards x = new SparkBoards();
        Check.due("line of one cell", x.line(3, 4, 3, 4), 1);
        Check.due("the same again", x.line(3, 4, 3, 4), 0);
        Check.due("line(7, 0, 0, 0)", x.line(7, 0, 0, 0), 8);
    }

    private static void only() {
        SparkBoards x = Check.drawn("tHc..", ".....", ".....");
        Check.due("line over what there is", x.line(0, 0, 4, 0), 2);
        Check.duePicture("only empty cells", x, "tHccc", ".....", ".....");
    }

    private static void refuses() {
        SparkBoards x = Check.drawn("tHc..", ".....", ".....");
        int[][] beyond = {{0, 0, 5, 0}, {0, 0, 0, 3}, {0, 0, 0, -1}, {-1, 0, 2, 0}, {5, 0, 2, 0}, {0, 3, 0, 0},
            {0, 0, 5, 2}, {0, 0, Integer.MAX_VALUE, 0}, {Integer.MIN_VALUE, 0, 0, 0}, {0, Integer.MIN_VALUE, 0, Integer.MAX_VALUE}};
        for (int[] l : beyond) {
            Check.refused(x, "line beyond", IndexOutOfBoundsException.class, () -> x.line(l[0], l[1], l[2], l[3]));
        }
        int[][] crooked = {{0, 0, 1, 2}, {0, 0, 2, 1}, {4, 2, 1, 0}, {0, 2, 4, 0}};
        for (int[] l : crooked) {
            Check.refused(x, "line, crooked", IllegalArgumentException.class, () -> x.line(l[0], l[1], l[2], l[3]));
        }
    }
}
