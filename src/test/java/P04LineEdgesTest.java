public final class P04LineEdgesTest {
    public static void main(String[] args) {
        shortestLine();
        longestLines();
        onlyWhereItIsEmpty();
        firstCellsThatAreNot();
        crookedLines();
        Check.end();
    }

    // "from one cell to another one, both as well": both may be one cell, which is one row, column and diagonal.
    private static void shortestLine() {
        for (int[] side : Check.sides()) {
            for (int[] cell : Check.corners(side[0], side[1])) {
                SparkBoards x = Check.full(side[0], side[1], '.');
                Check.due("a line of one cell", x.line(cell[0], cell[1], cell[0], cell[1]), 1);
                Check.due("that cell", x.told(cell[0], cell[1], 0), 1);
                Check.due("copper", x.count(3), 1);
            }
        }
        SparkBoards x = Check.full(3, 3, '.');
        Check.due("a line of two cells", x.line(1, 1, 2, 0), 2);
        Check.duePicture("both", x, "..c", ".c.", "...");
    }

    private static void longestLines() {
        int[][] lines = {{0, 0, 9, 0}, {9, 9, 0, 9}, {0, 0, 0, 9}, {9, 9, 9, 0}, {0, 0, 9, 9}, {9, 9, 0, 0},
            {0, 9, 9, 0}, {9, 0, 0, 9}};
        for (int[] l : lines) {
            SparkBoards x = Check.full(10, 10, '.');
            Check.due("from edge to edge", x.line(l[0], l[1], l[2], l[3]), 10);
            Check.due("and back", x.line(l[2], l[3], l[0], l[1]), 0);
            Check.due("copper", x.count(3), 10);
            for (int i = 0; i < 10; i++) {
                int column = l[0] + i * Integer.signum(l[2] - l[0]);
                int row = l[1] + i * Integer.signum(l[3] - l[1]);
                Check.due("a cell of it", x.told(column, row, 0), 1);
            }
        }
        SparkBoards x = Check.full(3, 10, '.');
        Check.due("line(0, 7, 2, 9)", x.line(0, 7, 2, 9), 3);
        Check.due("line(2, 7, 0, 9)", x.line(2, 7, 0, 9), 2);
    }

    // "where it is empty": "Returns how many cells become copper."
    private static void onlyWhereItIsEmpty() {
        char[] kinds = {'c', 'H', 't'};
        for (char kind : kinds) {
            SparkBoards x = Check.full(10, 10, kind);
            String before = Check.all(x);
            Check.due("on a full board", x.line(0, 0, 9, 9), 0);
            Check.dueText("nothing is changed", Check.all(x), before);
        }
        SparkBoards x = Check.drawn("H....", ".t...", "..c..", "...H.", ".....");
        Check.due("line(4, 4, 0, 0)", x.line(4, 4, 0, 0), 1);
        Check.duePicture("the others stay", x, "H....", ".t...", "..c..", "...H.", "....c");
    }

    // "Throws IndexOutOfBoundsException if there is no such cell", ahead of a crooked line
    private static void firstCellsThatAreNot() {
        for (int[] side : Check.sides()) {
            SparkBoards x = Check.full(side[0], side[1], '.');
            x.set(1, 1, 2);
            for (int[] cell : Check.beyond(side[0], side[1])) {
                Check.refused(x, "line from beyond", Check.INDEX, () -> x.line(cell[0], cell[1], 1, 2));
                Check.refused(x, "line to beyond", Check.INDEX, () -> x.line(1, 2, cell[0], cell[1]));
                Check.refused(x, "line of one cell beyond", Check.INDEX,
                    () -> x.line(cell[0], cell[1], cell[0], cell[1]));
            }
        }
    }

    // "Throws IllegalArgumentException if both are not in one row, one column or one diagonal"
    private static void crookedLines() {
        for (int[] side : Check.sides()) {
            for (int from = 0; from < side[0] * side[1]; from += 7) {
                SparkBoards x = Check.full(side[0], side[1], '.');
                x.set(2, 1, 3);
                for (int to = 0; to < side[0] * side[1]; to++) {
                    int[] l = {from % side[0], from / side[0], to % side[0], to / side[0]};
                    boolean straight = l[0] == l[2] || l[1] == l[3];
                    boolean diagonal = l[0] - l[1] == l[2] - l[3] || l[0] + l[1] == l[2] + l[3];
                    if (!straight && !diagonal) {
                        Check.refused(x, "line, crooked", Check.ARGUMENT, () -> x.line(l[0], l[1], l[2], l[3]));
                    }
                }
            }
        }
    }
}
