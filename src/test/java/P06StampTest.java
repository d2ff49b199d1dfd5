public final class P06StampTest {
    public static void main(String[] args) {
        stampsAndTurns();
        changes();
        refuses();
        Check.end();
    }

    private static void stampsAndTurns() {
        String[][][] due = {
            {{"...", "ccc", "..."}, {".c.", ".c.", ".c."}, {"...", "ccc", "..."}, {".c.", ".c.", ".c."}},
            {{".c.", "c.c", ".c."}, {".c.", "c.c", ".c."}, {".c.", "c.c", ".c."}, {".c.", "c.c", ".c."}},
            {{".c.", "cc.", ".c."}, {".c.", "ccc", "..."}, {".c.", ".cc", ".c."}, {"...", "ccc", ".c."}},
            {{"c..", ".cc", "c.."}, {"c.c", ".c.", ".c."}, {"..c", "cc.", "..c"}, {".c.", ".c.", "c.c"}},
        };
        for (int stamp = 0; stamp < 4; stamp++) {
            for (int turns = 0; turns < 4; turns++) {
                SparkBoards x = new SparkBoards();
                x.setBoard(3, 3);
                Check.due("stamp " + stamp, x.stamp(stamp, turns, 0, 0), stamp == 0 ? 3 : 4);
                Check.duePicture("stamp " + stamp + ", turns " + turns, x, due[stamp][turns]);
                Check.due("the same again", x.stamp(stamp, turns, 0, 0), 0);
            }
        }
    }

    private static void changes() {
        SparkBoards x = Check.drawn("cccccc", "ctHtcc", "cccccc", "cccccc");
        Check.due("stamp(1, 0, 2, 1)", x.stamp(1, 0, 2, 1), 6);
        Check.duePicture("the nine cells", x, "cccccc", "ct.c.c", "ccc.cc", "cc.c.c");
    }

    private static void refuses() {
        SparkBoards x = Check.drawn("tHc..", ".....", ".....", "....c");
        int[][] wrong = {{-1, 0, 0, 0}, {4, 0, 0, 0}, {0, -1, 0, 0}, {0, 4, 0, 0}, {0, 0, -1, 0}, {0, 0, 0, -1},
            {0, 0, 3, 0}, {0, 0, 0, 2}, {0, 0, 5, 4}, {Integer.MAX_VALUE, 0, 0, 0}, {0, Integer.MIN_VALUE, 0, 0},
            {0, 0, Integer.MAX_VALUE, 0}, {0, 0, 0, Integer.MIN_VALUE}};
        for (int[] s : wrong) {
            Check.refused(x, "stamp", IndexOutOfBoundsException.class, () -> x.stamp(s[0], s[1], s[2], s[3]));
        }
        Check.due("stamp(0, 0, 2, 1)", x.stamp(0, 0, 2, 1), 4);
    }
}
