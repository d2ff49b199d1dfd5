public final class P05RingTest {
    public static void main(String[] args) {
        SparkBoards x = new SparkBoards();
        Check.due("ring(1, 1, 5, 4)", x.ring(1, 1, 5, 4), 10);
        Check.duePicture("the ring", x, "........", "..ccc...", ".c...c..", ".c...c..", "..ccc...", "........");
        x.setBoard(8, 6);
        Check.due("ring, all over", x.ring(0, 0, 8, 6), 20);
        Check.duePicture("all over", x, ".cccccc.", "c......c", "c......c", "c......c", "c......c", ".cccccc.");
        SparkBoards y = Check.drawn(".H..", "t.c.", "....");
        Check.due("ring(0, 0, 3, 3)", y.ring(0, 0, 3, 3), 1);
        Check.duePicture("only empty cells", y, ".H..", "t.c.", ".c..");
        Check.due("ring(1, 0, 3, 3)", y.ring(1, 0, 3, 3), 4);
        refuses();
        Check.end();
    }

    private static void refuses() {
        SparkBoards x = Check.drawn("tHc....c", "........", "........", "........", "........", "........");
        int[][] small = {{0, 0, 2, 3}, {0, 0, 3, 2}, {0, 0, 0, 3}, {0, 0, 3, -1}, {-1, 9, 2, 2}, {7, 0, 2, 3},
            {0, 0, Integer.MIN_VALUE, 3}, {0, 0, 99, 2}};
        for (int[] r : small) {
            Check.refused(x, "ring, small", IllegalArgumentException.class, () -> x.ring(r[0], r[1], r[2], r[3]));
        }
        int[][] beyond = {{0, 0, 9, 3}, {0, 0, 3, 7}, {6, 0, 3, 3}, {0, 4, 3, 3}, {-1, 0, 3, 3}, {0, -1, 3, 3}, {8, 0, 3, 3},
            {0, 6, 3, 3}, {1, 0, Integer.MAX_VALUE, 3}, {1, 1, 3, Integer.MAX_VALUE}, {Integer.MAX_VALUE, 0, 3, 3},
            {0, Integer.MAX_VALUE, 3, 3}, {Integer.MIN_VALUE, 0, Integer.MAX_VALUE, 3}, {-3, 0, 9, 3}};
        for (int[] r : beyond) {
            Check.refused(x, "ring beyond", IndexOutOfBoundsException.class, () -> x.ring(r[0], r[1], r[2], r[3]));
        }
    }
}
