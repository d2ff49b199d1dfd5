public final class P08LampEdgesTest {
    public static void main(String[] args) {
        lastCells();
        firstCellsThatAreNot();
        fiveLamps();
        onEachKind();
        fiveOnOneCell();
        Check.end();
    }

    private static void lastCells() {
        for (int[] side : Check.sides()) {
            SparkBoards x = Check.full(side[0], side[1], '.');
            int number = 0;
            for (int[] cell : Check.corners(side[0], side[1])) {
                Check.due("a lamp in a corner", x.lamp(cell[0], cell[1]), number);
                Check.due("its column", x.about(number, 0), cell[0]);
                Check.due("its row", x.about(number, 1), cell[1]);
                number++;
            }
        }
    }

    // "Throws IndexOutOfBoundsException if there is no such cell", also if there are 5
    private static void firstCellsThatAreNot() {
        for (int[] side : Check.sides()) {
            for (int lamps = 0; lamps <= 5; lamps++) {
                SparkBoards x = Check.full(side[0], side[1], 'c');
                for (int i = 0; i < lamps; i++) {
                    x.lamp(1, 1);
                }
                for (int[] cell : Check.beyond(side[0], side[1])) {
                    Check.refused(x, "lamp beyond", Check.INDEX, () -> x.lamp(cell[0], cell[1]));
                }
            }
        }
    }

    // "Throws IllegalStateException if there are 5"
    private static void fiveLamps() {
        SparkBoards x = Check.drawn("tHc", "...", "...");
        for (int number = 0; number < 5; number++) {
            Check.due("the number of a new lamp", x.lamp(2, 0), number);
        }
        Check.refused(x, "a sixth lamp, not lit", Check.STATE, () -> x.lamp(1, 1));
        x.pass(1);
        for (int[] cell : Check.corners(3, 3)) {
            Check.refused(x, "a sixth lamp", Check.STATE, () -> x.lamp(cell[0], cell[1]));
        }
        Check.due("times lit", x.count(9), 5);
        Check.due("foreseen", x.foresee(1, 9), 5);
    }

    // "a new lamp there, not lit yet", whatever is there
    private static void onEachKind() {
        SparkBoards x = Check.drawn(".cHt", "....", "....");
        x.pass(3);
        Check.draw(x, ".cHt", "....", "....");
        for (int column = 0; column < 4; column++) {
            Check.due("lamp", x.lamp(column, 0), column);
            Check.due("how often it was lit", x.about(column, 2), 0);
            Check.due("the latest time", x.about(column, 3), 0);
            Check.due("what is there", x.told(column, 0, 0), column);
        }
        x.pass(1);
        int[] lit = {0, 1, 0, 0};
        for (int column = 0; column < 4; column++) {
            Check.due("lit by a step", x.about(column, 2), lit[column]);
            Check.due("behind the step", x.about(column, 3), 4 * lit[column]);
        }
    }

    private static void fiveOnOneCell() {
        SparkBoards x = Check.drawn("tHc", "...", "...");
        for (int number = 0; number < 5; number++) {
            x.lamp(2, 0);
        }
        x.pass(2);
        for (int number = 0; number < 5; number++) {
            Check.due("lit", x.about(number, 2), 1);
            Check.due("behind the step", x.about(number, 3), 1);
        }
    }
}
