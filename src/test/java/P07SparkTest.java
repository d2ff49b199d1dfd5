public final class P07SparkTest {
    public static void main(String[] args) {
        String[][] due = {
            {"ccc", "tHc", "ccc"}, {"tcc", "cHc", "ccc"}, {"ctc", "cHc", "ccc"}, {"cct", "cHc", "ccc"},
            {"ccc", "cHt", "ccc"}, {"ccc", "cHc", "cct"}, {"ccc", "cHc", "ctc"}, {"ccc", "cHc", "tcc"},
        };
        for (int direction = 0; direction < 8; direction++) {
            SparkBoards x = Check.drawn("ccc", "ccc", "ccc");
            Check.due("spark(1, 1, " + direction + ")", x.spark(1, 1, direction), 1);
            Check.duePicture("direction " + direction, x, due[direction]);
        }
        SparkBoards x = Check.drawn("cccc", "....", "cccc");
        Check.due("one spark", x.spark(3, 0, 0), 1);
        Check.due("another spark", x.spark(0, 2, 4), 2);
        Check.due("heads are counted, not tails", Check.drawn("ccH", "..H", "H..").spark(1, 0, 0), 4);
        refuses();
        Check.end();
    }

    private static void refuses() {
        SparkBoards x = Check.drawn("cctHc", "c.ccc", "ccccc");
        int[][] beyond = {{-1, 0, 0}, {5, 0, 0}, {0, -1, 0}, {0, 3, 0}, {1, 0, -1}, {1, 0, 8}, {1, 1, 8},
            {Integer.MIN_VALUE, 0, 0}, {0, Integer.MAX_VALUE, 0}, {0, 0, Integer.MAX_VALUE}};
        for (int[] s : beyond) {
            Check.refused(x, "spark beyond", IndexOutOfBoundsException.class, () -> x.spark(s[0], s[1], s[2]));
        }
        int[][] noCopper = {{1, 1, 0}, {2, 1, 0}, {3, 0, 4}, {2, 0, 0}, {4, 0, 0}, {0, 0, 0}, {4, 2, 4}, {0, 0, 2},
            {4, 2, 6}, {1, 0, 4}};
        for (int[] s : noCopper) {
            Check.refused(x, "spark without copper", IllegalStateException.class, () -> x.spark(s[0], s[1], s[2]));
        }
    }
}
