public final class P10ToldEdgesTest {
    public static void main(String[] args) {
        numbersOfWhat();
        firstCellsThatAreNot();
        emptyBoards();
        fullBoards();
        aroundAnEmptyCell();
        sizesOfPieces();
        Check.end();
    }

    // "what is not 0 to 4"
    private static void numbersOfWhat() {
        int[] wrong = {-1, 5, -5, 6, Integer.MIN_VALUE, Integer.MAX_VALUE};
        SparkBoards[] boards = {new SparkBoards(), Check.full(10, 10, 'H')};
        for (SparkBoards x : boards) {
            for (int what : wrong) {
                Check.refused(x, "told(0, 0, " + what + ")", Check.INDEX, () -> x.told(0, 0, what));
                Check.refused(x, "told(10, 10, " + what + ")", Check.INDEX, () -> x.told(10, 10, what));
            }
        }
        Check.due("told(0, 0, 0)", boards[1].told(0, 0, 0), 2);
        Check.due("told(0, 0, 4)", boards[1].told(0, 0, 4), 3);
    }

    // "Throws IndexOutOfBoundsException if there is no such cell"
    private static void firstCellsThatAreNot() {
        for (int[] side : Check.sides()) {
            SparkBoards x = Check.full(side[0], side[1], 'c');
            for (int[] cell : Check.beyond(side[0], side[1])) {
                for (int what = 0; what <= 4; what++) {
                    int w = what;
                    Check.refused(x, "told beyond, " + w, Check.INDEX, () -> x.told(cell[0], cell[1], w));
                }
            }
        }
    }

    private static void emptyBoards() {
        for (int[] side : Check.sides()) {
            SparkBoards x = Check.full(side[0], side[1], '.');
            for (int[] cell : Check.corners(side[0], side[1])) {
                dueTold(x, cell, 0, 0, 0, 0, 0);
            }
        }
    }

    private static void fullBoards() {
        for (int[] side : Check.sides()) {
            int size = side[0] * side[1];
            for (int[] cell : Check.corners(side[0], side[1])) {
                dueTold(Check.full(side[0], side[1], 'c'), cell, 1, 0, 1, size, 3);
                dueTold(Check.full(side[0], side[1], 'H'), cell, 2, 3, 3, size, 3);
                dueTold(Check.full(side[0], side[1], 't'), cell, 3, 0, 1, size, 3);
            }
            int[] inside = {1, 1};
            dueTold(Check.full(side[0], side[1], 'c'), inside, 1, 0, 1, size, 8);
            dueTold(Check.full(side[0], side[1], 'H'), inside, 2, 8, 3, size, 8);
            dueTold(Check.full(side[0], side[1], 't'), inside, 3, 0, 1, size, 8);
        }
    }

    // "3 how many cells its piece of wire has (0 if it is empty)"; its neighbours count all the same
    private static void aroundAnEmptyCell() {
        SparkBoards x = Check.full(3, 3, 'H');
        x.set(1, 1, 0);
        dueTold(x, new int[] {1, 1}, 0, 8, 0, 0, 8);
        dueTold(x, new int[] {0, 0}, 2, 2, 3, 8, 2);
    }

    private static void sizesOfPieces() {
        for (int[] side : Check.sides()) {
            for (int[] cell : Check.corners(side[0], side[1])) {
                for (int kind = 1; kind <= 3; kind++) {
                    SparkBoards x = Check.full(side[0], side[1], '.');
                    x.set(cell[0], cell[1], kind);
                    Check.due("a piece of one cell", x.told(cell[0], cell[1], 3), 1);
                    Check.due("beside it", x.told(1, 1, 3), 0);
                }
            }
        }
        // A row without copper parts the board: 40 cells above it, 50 below.
        SparkBoards x = Check.full(10, 10, 't');
        for (int column = 0; column < 10; column++) {
            x.set(column, 4, 0);
        }
        Check.due("above", x.told(9, 3, 3), 40);
        Check.due("below", x.told(0, 5, 3), 50);
        x.set(9, 4, 2);
        Check.due("joined", x.told(0, 0, 3), 91);
    }

    private static void dueTold(SparkBoards x, int[] cell, int... due) {
        for (int what = 0; what < due.length; what++) {
            String call = "told(" + cell[0] + ", " + cell[1] + ", " + what + ")";
            Check.due(call, x.told(cell[0], cell[1], what), due[what]);
        }
    }
}
