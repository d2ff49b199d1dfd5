public final class P05RingEdgesTest {
    public static void main(String[] args) {
        smallestRings();
        largestRings();
        atEachEdge();
        cornersAndInsideStay();
        onlyWhereItIsEmpty();
        tooSmall();
        beyondTheEdge();
        Check.end();
    }

    // "all cells at the edge of a rectangle but its four corners"
    private static void smallestRings() {
        SparkBoards x = Check.full(3, 3, '.');
        Check.due("ring(0, 0, 3, 3)", x.ring(0, 0, 3, 3), 4);
        Check.duePicture("the smallest", x, ".c.", "c.c", ".c.");
        x = Check.full(4, 5, '.');
        Check.due("ring(1, 0, 3, 5)", x.ring(1, 0, 3, 5), 8);
        Check.duePicture("3 columns", x, "..c.", ".c.c", ".c.c", ".c.c", "..c.");
        x = Check.full(5, 4, '.');
        Check.due("ring(0, 1, 5, 3)", x.ring(0, 1, 5, 3), 8);
        Check.duePicture("3 rows", x, ".....", ".ccc.", "c...c", ".ccc.");
    }

    private static void largestRings() {
        for (int[] side : Check.sides()) {
            SparkBoards x = Check.full(side[0], side[1], '.');
            int due = 2 * (side[0] - 2) + 2 * (side[1] - 2);
            Check.due("all over", x.ring(0, 0, side[0], side[1]), due);
            Check.due("the same again", x.ring(0, 0, side[0], side[1]), 0);
            Check.due("copper", x.count(3), due);
            for (int[] cell : Check.corners(side[0], side[1])) {
                Check.due("a corner", x.told(cell[0], cell[1], 0), 0);
            }
        }
    }

    private static void atEachEdge() {
        SparkBoards x = Check.full(10, 10, '.');
        Check.due("ring(7, 7, 3, 3)", x.ring(7, 7, 3, 3), 4);
        Check.due("ring(0, 7, 3, 3)", x.ring(0, 7, 3, 3), 4);
        Check.due("ring(7, 0, 3, 3)", x.ring(7, 0, 3, 3), 4);
        Check.due("ring(0, 0, 3, 3)", x.ring(0, 0, 3, 3), 4);
        Check.duePicture("a ring in each corner", x, ".c......c.", "c.c....c.c", ".c......c.", "..........",
            "..........", "..........", "..........", ".c......c.", "c.c....c.c", ".c......c.");
    }

    private static void cornersAndInsideStay() {
        SparkBoards x = Check.drawn("H..t", ".cH.", ".tc.", "t..H");
        Check.due("ring(0, 0, 4, 4)", x.ring(0, 0, 4, 4), 8);
        Check.duePicture("the others stay", x, "Hcct", "ccHc", "ctcc", "tccH");
    }

    // "where it is empty": "Returns how many cells become copper."
    private static void onlyWhereItIsEmpty() {
        char[] kinds = {'c', 'H', 't'};
        for (char kind : kinds) {
            SparkBoards x = Check.full(10, 10, kind);
            String before = Check.all(x);
            Check.due("on a full board", x.ring(0, 0, 10, 10), 0);
            Check.dueText("nothing is changed", Check.all(x), before);
        }
    }

    // "Throws IllegalArgumentException if w or h is less than 3", ahead of cells beyond the edge
    private static void tooSmall() {
        for (int[] side : Check.sides()) {
            SparkBoards x = Check.full(side[0], side[1], '.');
            x.set(1, 1, 2);
            int[] small = {2, 1, 0, -1, -3, Integer.MIN_VALUE};
            int[][] at = {{0, 0}, {1, 1}, {-1, 0}, {side[0], side[1]}, {Integer.MAX_VALUE, Integer.MIN_VALUE}};
            int[] others = {3, 11, Integer.MAX_VALUE, 2};
            for (int s : small) {
                for (int[] a : at) {
                    for (int other : others) {
                        Check.refused(x, "ring, narrow", Check.ARGUMENT, () -> x.ring(a[0], a[1], s, other));
                        Check.refused(x, "ring, low", Check.ARGUMENT, () -> x.ring(a[0], a[1], other, s));
                    }
                }
            }
        }
    }

    // "Throws IndexOutOfBoundsException if some cell of it is beyond the edge of the board"
    private static void beyondTheEdge() {
        int most = Integer.MAX_VALUE;
        int least = Integer.MIN_VALUE;
        for (int[] side : Check.sides()) {
            int w = side[0];
            int h = side[1];
            SparkBoards x = Check.full(w, h, '.');
            x.set(1, 1, 2);
            int[][] rings = {{0, 0, w + 1, h}, {0, 0, w, h + 1}, {1, 0, w, h}, {0, 1, w, h}, {-1, 0, w, h},
                {0, -1, w, h}, {-1, -1, w + 2, h + 2}, {w - 2, 0, 3, 3}, {0, h - 2, 3, 3}, {-1, 0, 3, 3},
                {0, -1, 3, 3}, {w, 0, 3, 3},
                {0, h, 3, 3}, {-3, 0, 3, 3}, {0, -3, 3, 3}, {1, 1, most, 3}, {1, 1, 3, most}, {0, 0, most, most},
                {most, most, most, most}, {least, least, most, most}, {most, 0, 3, 3}, {0, most, 3, 3},
                    {least, 0, 3, 3},
                {0, least, 3, 3}, {most - 1, 0, 3, 3}, {0, most - 1, 3, 3}, {-1, 0, most, 3}, {0, -1, 3, most}};
            for (int[] r : rings) {
                String call = "ring(" + r[0] + ", " + r[1] + ", " + r[2] + ", " + r[3] + ")";
                Check.refused(x, call, Check.INDEX, () -> x.ring(r[0], r[1], r[2], r[3]));
            }
        }
    }
}
