public final class P09PassEdgesTest {
    public static void main(String[] args) {
        numbersOfSteps();
        asStepByStep();
        emptyAndFullBoards();
        edgesOfTheBoard();
        lampsAtTheFirstAndTheLastStep();
        Check.end();
    }

    // "Throws IllegalArgumentException if steps is not 1 to 100"
    private static void numbersOfSteps() {
        int[] wrong = {0, 101, -1, -100, 102, 256, Integer.MIN_VALUE, Integer.MAX_VALUE};
        SparkBoards[] boards = {new SparkBoards(), Check.full(10, 10, 'H'), Check.drawn("tHc", "...", "cc.")};
        boards[2].lamp(2, 0);
        for (SparkBoards x : boards) {
            for (int steps : wrong) {
                Check.refused(x, "pass(" + steps + ")", Check.ARGUMENT, () -> x.pass(steps));
            }
            x.pass(1);
            Check.due("behind pass(1)", x.count(0), 1);
            x.pass(100);
            Check.due("behind pass(100)", x.count(0), 101);
            x.pass(99);
            Check.due("behind pass(99)", x.count(0), 200);
        }
    }

    private static void asStepByStep() {
        SparkBoards x = Check.drawn(".cc..ccc..", "t..cc...c.", ".Hc..ccc.c", "...c....c.", "...ccccc..");
        SparkBoards y = Check.drawn(Check.picture(x));
        int[][] lamps = {{0, 1}, {5, 0}, {9, 2}, {7, 4}, {4, 1}};
        for (int[] lamp : lamps) {
            x.lamp(lamp[0], lamp[1]);
            y.lamp(lamp[0], lamp[1]);
        }
        int heads = 0;
        for (int i = 0; i < 100; i++) {
            heads = y.pass(1);
        }
        Check.due("pass(100)", x.pass(100), heads);
        Check.dueText("as 100 times pass(1)", Check.all(x), Check.all(y));
    }

    private static void emptyAndFullBoards() {
        for (int[] side : Check.sides()) {
            SparkBoards x = Check.full(side[0], side[1], '.');
            Check.due("pass(100) of empty cells", x.pass(100), 0);
            Check.due("all are empty", x.count(3) + x.count(4) + x.count(5), 0);
            x = Check.full(side[0], side[1], 'c');
            Check.due("pass(100) of copper", x.pass(100), 0);
            Check.due("all are copper", x.count(3), side[0] * side[1]);
            x = Check.full(side[0], side[1], 'H');
            Check.due("pass(1) of heads", x.pass(1), 0);
            Check.due("all are tails", x.count(5), side[0] * side[1]);
            Check.due("pass(1) of tails", x.pass(1), 0);
            Check.due("all are copper", x.count(3), side[0] * side[1]);
            Check.dueDouble("mean()", x.mean(), 0.0);
        }
    }

    // A head in a corner reaches its three neighbours, one in the middle of an edge five.
    private static void edgesOfTheBoard() {
        for (int[] side : Check.sides()) {
            for (int[] cell : Check.corners(side[0], side[1])) {
                SparkBoards x = Check.full(side[0], side[1], 'c');
                x.set(cell[0], cell[1], 2);
                Check.due("from a corner", x.pass(1), 3);
            }
            int[][] middles = {{1, 0}, {0, 1}, {side[0] - 2, side[1] - 1}, {side[0] - 1, side[1] - 2}};
            for (int[] cell : middles) {
                SparkBoards x = Check.full(side[0], side[1], 'c');
                x.set(cell[0], cell[1], 2);
                Check.due("from an edge", x.pass(1), 5);
            }
        }
    }

    private static void lampsAtTheFirstAndTheLastStep() {
        // Behind 1 step the spark is at (2, 0), behind 8 at (9, 0).
        SparkBoards x = Check.drawn("tHcccccccc", "..........", "..........");
        int[] columns = {2, 9, 8, 1, 0};
        for (int column : columns) {
            x.lamp(column, 0);
        }
        Check.due("pass(8)", x.pass(8), 1);
        int[] latest = {1, 8, 7, 0, 0};
        for (int lamp = 0; lamp < 5; lamp++) {
            Check.due("lit", x.about(lamp, 2), latest[lamp] == 0 ? 0 : 1);
            Check.due("behind the step", x.about(lamp, 3), latest[lamp]);
        }
    }
}
