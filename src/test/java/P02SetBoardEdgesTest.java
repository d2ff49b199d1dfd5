public final class P02SetBoardEdgesTest {
    public static void main(String[] args) {
        lastSidesThatAreAllowed();
        firstSidesThatAreNot();
        aNewBoardIsEmpty();
        nothingIsKeptForALargerOne();
        withoutLamps();
        stepsGoOn();
        Check.end();
    }

    // "Returns how many cells it has."
    private static void lastSidesThatAreAllowed() {
        SparkBoards x = new SparkBoards();
        Check.due("setBoard(3, 3)", x.setBoard(3, 3), 9);
        Check.due("setBoard(10, 10)", x.setBoard(10, 10), 100);
        Check.due("setBoard(3, 10)", x.setBoard(3, 10), 30);
        Check.due("its last cell", x.set(2, 9, 1), 0);
        Check.due("setBoard(10, 3)", x.setBoard(10, 3), 30);
        Check.due("its last cell", x.set(9, 2, 1), 0);
        Check.due("the same again", x.setBoard(10, 3), 30);
        Check.due("the same again is empty", x.count(3), 0);
    }

    // "Throws IllegalArgumentException if w or h is not 3 to 10"
    private static void firstSidesThatAreNot() {
        int[][] sides = {{2, 3}, {3, 2}, {2, 10}, {10, 2}, {11, 3}, {3, 11}, {11, 10}, {10, 11}, {2, 2}, {11, 11},
            {2, 11}, {11, 2}, {0, 0}, {-3, -3}, {-10, -10}, {1 << 16, 1 << 16}, {Integer.MIN_VALUE, 3},
            {3, Integer.MIN_VALUE}, {Integer.MAX_VALUE, 10}, {10, Integer.MAX_VALUE}};
        SparkBoards[] boards = {new SparkBoards(), Check.full(3, 3, 'H'), Check.full(10, 10, 'c'),
            Check.full(3, 10, 't')};
        for (int i = 0; i < boards.length; i++) {
            SparkBoards x = boards[i];
            for (int lamp = 0; lamp < i; lamp++) {
                x.lamp(lamp % 3, 0);
            }
            for (int[] side : sides) {
                String call = "setBoard(" + side[0] + ", " + side[1] + ")";
                Check.refused(x, call, Check.ARGUMENT, () -> x.setBoard(side[0], side[1]));
            }
        }
    }

    // "Takes another board: empty"
    private static void aNewBoardIsEmpty() {
        char[] kinds = {'c', 'H', 't'};
        for (char kind : kinds) {
            SparkBoards x = Check.full(10, 10, kind);
            x.setBoard(10, 10);
            Check.dueText("as large, behind " + kind, Check.all(x), Check.all(Check.full(10, 10, '.')));
            x = Check.full(10, 10, kind);
            x.setBoard(3, 3);
            Check.duePicture("smaller, behind " + kind, x, "...", "...", "...");
        }
    }

    private static void nothingIsKeptForALargerOne() {
        SparkBoards x = Check.full(10, 10, 'H');
        x.setBoard(3, 3);
        x.set(2, 2, 2);
        x.foresee(1, 4);
        x.setBoard(10, 10);
        Check.dueText("larger", Check.all(x), Check.all(Check.full(10, 10, '.')));
        Check.due("a step of it", x.pass(1), 0);
    }

    // "without lamps"
    private static void withoutLamps() {
        SparkBoards x = Check.drawn("tHccc", ".....", ".....");
        for (int lamp = 0; lamp < 5; lamp++) {
            x.lamp(lamp, 0);
        }
        x.pass(3);
        Check.due("times lit", x.count(9), 3);
        x.setBoard(5, 3);
        Check.due("lamps", x.count(8), 0);
        Check.due("times lit", x.count(9), 0);
        Check.refused(x, "about(0, 0)", Check.INDEX, () -> x.about(0, 0));
        for (int lamp = 0; lamp < 5; lamp++) {
            Check.due("a lamp anew", x.lamp(4 - lamp, 2), lamp);
            Check.due("its column", x.about(lamp, 0), 4 - lamp);
            Check.due("not lit yet", x.about(lamp, 2) + x.about(lamp, 3), 0);
        }
        Check.refused(x, "a sixth lamp", Check.STATE, () -> x.lamp(0, 0));
    }

    // "steps go on"
    private static void stepsGoOn() {
        SparkBoards x = Check.drawn("tHc", "...", "...");
        x.lamp(2, 0);
        x.pass(1);
        x.setBoard(3, 3);
        Check.due("steps", x.count(0), 1);
        Check.dueDouble("mean()", x.mean(), 1.0);
        Check.draw(x, "tHc", "...", "...");
        x.lamp(2, 0);
        x.pass(1);
        Check.due("the step behind which it was lit", x.about(0, 3), 2);
        Check.due("how often it was lit", x.about(0, 2), 1);
        Check.dueDouble("mean() of both boards", x.mean(), 1.0);
    }
}
