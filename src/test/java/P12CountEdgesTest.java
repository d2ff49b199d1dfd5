public final class P12CountEdgesTest {
    public static void main(String[] args) {
        numbersOfWhat();
        emptyBoards();
        fullBoards();
        oneCell();
        mostPieces();
        ofAllLampsThatThereAre();
        stepsThatWentBy();
        Check.end();
    }

    // "Throws IndexOutOfBoundsException if what is not 0 to 9"
    private static void numbersOfWhat() {
        int[] wrong = {-1, 10, -9, 11, Integer.MIN_VALUE, Integer.MAX_VALUE};
        SparkBoards[] boards = {new SparkBoards(), Check.full(10, 10, 'c'), Check.full(3, 3, 'H')};
        for (SparkBoards x : boards) {
            for (int what : wrong) {
                Check.refused(x, "count(" + what + ")", Check.INDEX, () -> x.count(what));
            }
            Check.due("count(0)", x.count(0), 0);
            Check.due("count(9)", x.count(9), 0);
        }
    }

    private static void emptyBoards() {
        for (int[] side : Check.sides()) {
            dueCounts(Check.full(side[0], side[1], '.'), 0, side[0], side[1], 0, 0, 0, 0, 0, 0, 0);
        }
    }

    private static void fullBoards() {
        for (int[] side : Check.sides()) {
            int size = side[0] * side[1];
            dueCounts(Check.full(side[0], side[1], 'c'), 0, side[0], side[1], size, 0, 0, 1, size, 0, 0);
            dueCounts(Check.full(side[0], side[1], 'H'), 0, side[0], side[1], 0, size, 0, 1, size, 0, 0);
            dueCounts(Check.full(side[0], side[1], 't'), 0, side[0], side[1], 0, 0, size, 1, size, 0, 0);
        }
    }

    private static void oneCell() {
        for (int[] side : Check.sides()) {
            for (int[] cell : Check.corners(side[0], side[1])) {
                SparkBoards x = Check.full(side[0], side[1], '.');
                x.set(cell[0], cell[1], 1);
                dueCounts(x, 0, side[0], side[1], 1, 0, 0, 1, 1, 0, 0);
                x.set(cell[0], cell[1], 2);
                dueCounts(x, 0, side[0], side[1], 0, 1, 0, 1, 1, 0, 0);
                x.set(cell[0], cell[1], 3);
                dueCounts(x, 0, side[0], side[1], 0, 0, 1, 1, 1, 0, 0);
                x.set(cell[0], cell[1], 0);
                dueCounts(x, 0, side[0], side[1], 0, 0, 0, 0, 0, 0, 0);
            }
        }
    }

    // "6 pieces of wire, 7 cells of the longest of these"
    private static void mostPieces() {
        SparkBoards x = Check.full(10, 10, '.');
        for (int number = 0; number < 25; number++) {
            x.set(2 * (number % 5), 2 * (number / 5), 1 + number % 3);
        }
        dueCounts(x, 0, 10, 10, 9, 8, 8, 25, 1, 0, 0);
        x.set(9, 9, 1);
        dueCounts(x, 0, 10, 10, 10, 8, 8, 25, 2, 0, 0);
        x.set(0, 1, 1);
        dueCounts(x, 0, 10, 10, 11, 8, 8, 24, 3, 0, 0);
    }

    // "9 times that lamps were lit, of all that there are"
    private static void ofAllLampsThatThereAre() {
        SparkBoards x = Check.drawn("tHccc", ".....", "tHccc");
        int[][] lamps = {{2, 0}, {2, 2}, {4, 0}, {4, 0}, {0, 1}};
        for (int i = 0; i < 5; i++) {
            x.lamp(lamps[i][0], lamps[i][1]);
            Check.due("lamps", x.count(8), i + 1);
            Check.due("times lit", x.count(9), 0);
        }
        x.pass(1);
        Check.due("times lit behind 1 step", x.count(9), 2);
        x.pass(1);
        Check.due("times lit behind 2 steps", x.count(9), 2);
        x.pass(1);
        Check.due("times lit behind 3 steps", x.count(9), 4);
        x.setBoard(3, 3);
        Check.due("those of lamps that are gone do not count", x.count(9), 0);
    }

    // "0 steps that went by": and none that was refused or only looked at
    private static void stepsThatWentBy() {
        SparkBoards x = Check.drawn("tHccc", ".....", "ccc..");
        x.foresee(100, 4);
        x.until(4, 0);
        x.period(1);
        x.advise(4);
        Check.refused(x, "pass(101)", Check.ARGUMENT, () -> x.pass(101));
        Check.due("none yet", x.count(0), 0);
        x.pass(100);
        x.setBoard(10, 10);
        x.pass(1);
        Check.due("on both boards", x.count(0), 101);
    }

    private static void dueCounts(SparkBoards x, int... due) {
        for (int what = 0; what < due.length; what++) {
            Check.due("count(" + what + ")", x.count(what), due[what]);
        }
    }
}
