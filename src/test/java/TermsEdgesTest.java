/** The boundary cases that stand under 'Terms', a method for each sentence. */
public final class TermsEdgesTest {
    public static void main(String[] args) {
        cellsAreToldFromNought();
        numbersGoByRows();
        beyondTheEdgeIsEmpty();
        nothingComesRoundTheEdge();
        neighboursAreTheEightAround();
        stepsOfAllNeighbours();
        allCellsAtOnce();
        directionsGoRound();
        turnsBringCellsRound();
        piecesLieTogether();
        fiveLampsAtMost();
        litAsAStepEnds();
        severalExceptions();
        lastOfAllCalls();
        Check.end();
    }

    // "It has w columns and h rows ...; cells are told by column x and row y, from 0"
    private static void cellsAreToldFromNought() {
        for (int[] side : Check.sides()) {
            SparkBoards x = Check.full(side[0], side[1], 'c');
            for (int[] cell : Check.corners(side[0], side[1])) {
                Check.due("a corner", x.told(cell[0], cell[1], 0), 1);
            }
            for (int[] cell : Check.beyond(side[0], side[1])) {
                Check.refused(x, "told beyond", Check.INDEX, () -> x.told(cell[0], cell[1], 0));
            }
        }
    }

    // "their number is w * y + x": advise() answers with it, and only one cell is copper.
    private static void numbersGoByRows() {
        for (int[] side : Check.sides()) {
            for (int number = 0; number < side[0] * side[1]; number++) {
                int column = number % side[0];
                int row = number / side[0];
                SparkBoards x = Check.full(side[0], side[1], '.');
                x.set(column, row, 1);
                x.set(column == 0 ? 1 : column - 1, row, 2);
                Check.due("the number of (" + column + ", " + row + ")", x.advise(1), number);
            }
        }
    }

    // "What lies beyond the edge is empty."
    private static void beyondTheEdgeIsEmpty() {
        for (int[] side : Check.sides()) {
            SparkBoards x = Check.full(side[0], side[1], 'H');
            for (int row = 0; row < side[1]; row++) {
                for (int column = 0; column < side[0]; column++) {
                    boolean cap = row == 0 || row == side[1] - 1;
                    boolean end = column == 0 || column == side[0] - 1;
                    int due = cap && end ? 3 : cap || end ? 5 : 8;
                    Check.due("heads beside", x.told(column, row, 1), due);
                    Check.due("neighbours that are not empty", x.told(column, row, 4), due);
                }
            }
        }
    }

    private static void nothingComesRoundTheEdge() {
        // The cell is copper among heads everywhere but at its true neighbours, and has to stay.
        for (int[] side : Check.sides()) {
            for (int[] cell : Check.corners(side[0], side[1])) {
                SparkBoards x = Check.full(side[0], side[1], 'H');
                for (int i = 0; i < 9; i++) {
                    int column = cell[0] - 1 + i % 3;
                    int row = cell[1] - 1 + i / 3;
                    if (column >= 0 && column < side[0] && row >= 0 && row < side[1]) {
                        x.set(column, row, 0);
                    }
                }
                x.set(cell[0], cell[1], 1);
                Check.due("no head beside", x.told(cell[0], cell[1], 1), 0);
                Check.due("a piece of its own", x.told(cell[0], cell[1], 3), 1);
                x.pass(1);
                Check.due("it stays", x.told(cell[0], cell[1], 0), 1);
            }
        }
    }

    // "The neighbours of a cell are the eight around it, also over the corner."
    private static void neighboursAreTheEightAround() {
        for (int number = 0; number < 25; number++) {
            int column = number % 5;
            int row = number / 5;
            boolean beside = column >= 1 && column <= 3 && row >= 1 && row <= 3;
            SparkBoards x = Check.full(5, 5, '.');
            x.set(2, 2, 1);
            if (number != 12) {
                x.set(column, row, 2);
                Check.due("a head at (" + column + ", " + row + ")", x.told(2, 2, 1), beside ? 1 : 0);
                Check.due("the step", x.told(2, 2, 2), beside ? 2 : 1);
                Check.due("a way", x.way(2, 2, column, row), beside ? 1 : -1);
                Check.due("pieces", x.count(6), beside ? 1 : 2);
            }
        }
    }

    // "empty stays empty; a head becomes a tail; a tail becomes copper; copper becomes a head, if 1 or 2 of its
    // neighbours are heads, otherwise it stays": with each pattern of heads around, and each kind for the others.
    private static void stepsOfAllNeighbours() {
        SparkBoards x = new SparkBoards();
        x.setBoard(3, 3);
        int[] others = {0, 1, 3};
        for (int heads = 0; heads < 256; heads++) {
            int other = others[heads % 3];
            for (int kind = 0; kind < 4; kind++) {
                for (int i = 0; i < 8; i++) {
                    int number = i < 4 ? i : i + 1;
                    x.set(number % 3, number / 3, (heads >> i & 1) == 1 ? 2 : other);
                }
                x.set(1, 1, kind);
                int many = Integer.bitCount(heads);
                int copper = many == 1 || many == 2 ? 2 : 1;
                int due = new int[] {0, copper, 3, 1}[kind];
                Check.due("heads beside", x.told(1, 1, 1), many);
                Check.due("kind " + kind + " with " + many + " heads, foretold", x.told(1, 1, 2), due);
                x.pass(1);
                Check.due("kind " + kind + " with " + many + " heads", x.told(1, 1, 0), due);
            }
        }
    }

    // "A step, of all cells at once": whichever way a spark runs, it goes one cell a step.
    private static void allCellsAtOnce() {
        int[][] ends = {{0, 4, 9, 4}, {0, 0, 9, 9}, {4, 0, 4, 9}, {9, 0, 0, 9}, {9, 4, 0, 4}, {9, 9, 0, 0},
            {4, 9, 4, 0}, {0, 9, 9, 0}};
        for (int direction = 0; direction < 8; direction++) {
            int[] e = ends[direction];
            int right = Integer.signum(e[2] - e[0]);
            int down = Integer.signum(e[3] - e[1]);
            SparkBoards x = Check.full(10, 10, '.');
            x.line(e[0], e[1], e[2], e[3]);
            x.spark(e[0] + right, e[1] + down, direction);
            for (int i = 2; i < 10; i++) {
                Check.due("a spark of direction " + direction, x.pass(1), 1);
                Check.due("its head", x.told(e[0] + i * right, e[1] + i * down, 0), 2);
                Check.due("its tail", x.told(e[0] + (i - 1) * right, e[1] + (i - 1) * down, 0), 3);
                Check.due("copper behind it", x.told(e[0] + (i - 2) * right, e[1] + (i - 2) * down, 0), 1);
            }
            Check.due("it dies out", x.pass(1), 0);
        }
    }

    // "0 right, 1 right and down, ... 7 right and up": the tail lies against the direction.
    private static void directionsGoRound() {
        int[][] tails = {{0, 1}, {0, 0}, {1, 0}, {2, 0}, {2, 1}, {2, 2}, {1, 2}, {0, 2}};
        for (int direction = 0; direction < 8; direction++) {
            SparkBoards x = Check.full(3, 3, 'c');
            x.spark(1, 1, direction);
            Check.due("the tail of direction " + direction, x.told(tails[direction][0], tails[direction][1], 0), 3);
        }
    }

    // "A quarter turn brings (x, y) of them to (2 - y, x)."
    private static void turnsBringCellsRound() {
        for (int stamp = 0; stamp < 4; stamp++) {
            for (int turns = 0; turns < 3; turns++) {
                SparkBoards x = Check.full(3, 3, '.');
                SparkBoards more = Check.full(3, 3, '.');
                x.stamp(stamp, turns, 0, 0);
                more.stamp(stamp, turns + 1, 0, 0);
                for (int number = 0; number < 9; number++) {
                    int column = number % 3;
                    int row = number / 3;
                    Check.due("a quarter turn", more.told(2 - row, column, 0), x.told(column, row, 0));
                }
            }
        }
    }

    // "A piece of wire is all cells that are not empty, and lie together as neighbours, one by one."
    private static void piecesLieTogether() {
        SparkBoards x = Check.drawn("c..t", ".H..", "...c", "c...", "...t");
        Check.due("copper, a head", x.told(0, 0, 3), 2);
        Check.due("a tail alone, two columns off", x.told(3, 0, 3), 1);
        Check.due("copper alone, two columns off", x.told(3, 2, 3), 1);
        Check.due("copper alone, two rows off", x.told(0, 3, 3), 1);
        Check.due("a tail alone, two rows off", x.told(3, 4, 3), 1);
        Check.due("pieces", x.count(6), 5);
        x.set(2, 1, 3);
        Check.due("joined by a tail", x.told(0, 0, 3), 5);
        x.set(3, 3, 2);
        Check.due("joined by a head", x.told(0, 0, 3), 7);
        Check.due("pieces then", x.count(6), 2);
    }

    // "At most 5, numbered from 0"
    private static void fiveLampsAtMost() {
        SparkBoards x = new SparkBoards();
        for (int number = 0; number < 5; number++) {
            Check.due("the number of a lamp", x.lamp(7 - number, number), number);
        }
        Check.refused(x, "the sixth lamp", Check.STATE, () -> x.lamp(0, 0));
        Check.due("lamps", x.count(8), 5);
    }

    // "each is at a cell, and is lit as a step ends with a head there"
    private static void litAsAStepEnds() {
        SparkBoards x = Check.drawn("cccc", "....", "cHc.");
        x.lamp(1, 0);
        x.lamp(1, 2);
        x.lamp(2, 0);
        x.spark(1, 0, 0);
        x.set(3, 0, 2);
        x.set(3, 0, 1);
        Check.due("heads that are set or sparked light none", x.count(9), 0);
        x.pass(1);
        Check.due("a head there as the step begins", x.about(0, 2) + x.about(1, 2), 0);
        Check.due("a head there as the step ends", x.about(2, 2), 1);
        x.set(2, 0, 2);
        x.foresee(100, 9);
        x.until(0, 0);
        x.period(0);
        x.advise(4);
        Check.due("steps that are only looked at light none", x.count(9), 1);
    }

    // "If several exceptions apply, the one that is named first is thrown."
    private static void severalExceptions() {
        SparkBoards x = Check.drawn("tHc...", "......", "...c..");
        for (int i = 0; i < 5; i++) {
            x.lamp(i, 0);
        }
        Check.refused(x, "set: no cell, no kind", Check.INDEX, () -> x.set(6, 0, 4));
        Check.refused(x, "line: no cell, crooked", Check.INDEX, () -> x.line(0, 0, 6, 1));
        Check.refused(x, "ring: small, beyond", Check.ARGUMENT, () -> x.ring(5, 0, 3, 2));
        Check.refused(x, "spark: no cell, no copper", Check.INDEX, () -> x.spark(6, 0, 0));
        Check.refused(x, "spark: no direction, no copper", Check.INDEX, () -> x.spark(4, 1, 8));
        Check.refused(x, "lamp: no cell, five lamps", Check.INDEX, () -> x.lamp(0, 3));
        Check.refused(x, "foresee: no steps, nothing such", Check.ARGUMENT, () -> x.foresee(0, 2));
        Check.refused(x, "foresee: too many steps, nothing such", Check.ARGUMENT, () -> x.foresee(101, 10));
    }

    // "An object is used for at most 512 calls after it has been made"
    private static void lastOfAllCalls() {
        SparkBoards x = new SparkBoards();
        x.ring(0, 0, 3, 3);
        x.spark(1, 0, 7);
        x.lamp(1, 0);
        for (int call = 4; call < 511; call++) {
            Check.due("call " + call, x.pass(100), 1);
        }
        // A ring of four cells comes again behind four steps, so the lamp is lit each fourth step.
        Check.due("the 511th call", x.about(0, 2), 12675);
        Check.due("the 512th call", x.count(0), 50700);
    }
}
