public final class P13WayEdgesTest {
    public static void main(String[] args) {
        fromACellToItself();
        oneOfBothIsEmpty();
        noSuchWay();
        emptyBoards();
        fullBoards();
        longestWay();
        overEachKind();
        firstCellsThatAreNot();
        Check.end();
    }

    // "the fewest steps": none to the cell itself, unless it is empty
    private static void fromACellToItself() {
        for (int[] side : Check.sides()) {
            for (int[] cell : Check.corners(side[0], side[1])) {
                for (int kind = 0; kind <= 3; kind++) {
                    SparkBoards x = Check.full(side[0], side[1], '.');
                    x.set(cell[0], cell[1], kind);
                    Check.due("to itself", x.way(cell[0], cell[1], cell[0], cell[1]), kind == 0 ? -1 : 0);
                }
            }
        }
    }

    // "-1 if one of both is empty"
    private static void oneOfBothIsEmpty() {
        SparkBoards x = Check.full(3, 3, 'c');
        x.set(1, 1, 0);
        Check.due("from an empty cell", x.way(1, 1, 0, 0), -1);
        Check.due("to an empty cell", x.way(0, 0, 1, 1), -1);
        Check.due("round an empty cell", x.way(0, 0, 2, 2), 3);
    }

    // "or there is no such way": also not over the edge
    private static void noSuchWay() {
        SparkBoards x = Check.drawn("c.c", "c.c", "c.c");
        Check.due("over an empty column", x.way(0, 0, 2, 0), -1);
        x = Check.drawn("..c", "c..", "..c");
        Check.due("a row's end and the next one's beginning", x.way(2, 0, 0, 1), -1);
        x = Check.drawn("c...c", ".....", ".....", ".....", "c...c");
        for (int[] cell : Check.corners(5, 5)) {
            Check.due("to the other corners", x.way(0, 0, cell[0], cell[1]), cell[0] + cell[1] == 0 ? 0 : -1);
        }
    }

    private static void emptyBoards() {
        for (int[] side : Check.sides()) {
            SparkBoards x = Check.full(side[0], side[1], '.');
            Check.due("on an empty board", x.way(0, 0, side[0] - 1, side[1] - 1), -1);
            Check.due("to itself on an empty board", x.way(1, 1, 1, 1), -1);
        }
    }

    // Over corners too, so the way is as long as the farther of both directions.
    private static void fullBoards() {
        for (int[] side : Check.sides()) {
            SparkBoards x = Check.full(side[0], side[1], 'H');
            for (int number = 0; number < side[0] * side[1]; number++) {
                int column = number % side[0];
                int row = number / side[0];
                int due = Math.max(column, side[1] - 1 - row);
                Check.due("on a full board", x.way(0, side[1] - 1, column, row), due);
                Check.due("and back", x.way(column, row, 0, side[1] - 1), due);
            }
        }
    }

    private static void longestWay() {
        // To and fro over the whole board, each cell a step.
        SparkBoards x = Check.drawn("ccccccccc.", ".........c", ".cccccccc.", "c.........", ".cccccccc.", ".........c",
            ".cccccccc.", "c.........", ".ccccccccc", "..........");
        Check.due("from end to end", x.way(0, 0, 9, 8), 45);
        Check.due("and back", x.way(9, 8, 0, 0), 45);
        Check.due("cells of it", x.told(0, 0, 3), 46);
        x.set(0, 1, 1);
        Check.due("by a short cut", x.way(0, 0, 9, 8), 30);
    }

    private static void overEachKind() {
        SparkBoards x = Check.drawn("cHtcH", ".....", ".....");
        Check.due("over heads and tails", x.way(0, 0, 4, 0), 4);
        x.set(2, 0, 0);
        Check.due("not over an empty cell", x.way(0, 0, 4, 0), -1);
    }

    // "Throws IndexOutOfBoundsException if there is no such cell"
    private static void firstCellsThatAreNot() {
        for (int[] side : Check.sides()) {
            for (char kind : new char[] {'.', 'c'}) {
                SparkBoards x = Check.full(side[0], side[1], kind);
                for (int[] cell : Check.beyond(side[0], side[1])) {
                    Check.refused(x, "way from beyond", Check.INDEX, () -> x.way(cell[0], cell[1], 1, 1));
                    Check.refused(x, "way to beyond", Check.INDEX, () -> x.way(1, 1, cell[0], cell[1]));
                    Check.refused(x, "way beyond", Check.INDEX, () -> x.way(cell[0], cell[1], cell[0], cell[1]));
                }
            }
        }
    }
}
