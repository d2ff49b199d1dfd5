public final class P03SetEdgesTest {
    public static void main(String[] args) {
        lastCells();
        firstCellsThatAreNot();
        kinds();
        onAFullBoard();
        lightsNoLamp();
        Check.end();
    }

    // "x: a column, y: a row"
    private static void lastCells() {
        for (int[] side : Check.sides()) {
            SparkBoards x = Check.full(side[0], side[1], '.');
            for (int[] cell : Check.corners(side[0], side[1])) {
                Check.due("set at a corner", x.set(cell[0], cell[1], 3), 0);
                Check.due("what it is", x.told(cell[0], cell[1], 0), 3);
            }
            Check.due("only these", x.count(5), 4);
        }
    }

    // "Throws IndexOutOfBoundsException if there is no such cell", ahead of a wrong kind
    private static void firstCellsThatAreNot() {
        for (int[] side : Check.sides()) {
            SparkBoards x = Check.full(side[0], side[1], 't');
            for (int[] cell : Check.beyond(side[0], side[1])) {
                Check.refused(x, "set beyond", Check.INDEX, () -> x.set(cell[0], cell[1], 0));
                Check.refused(x, "set beyond, kind -1", Check.INDEX, () -> x.set(cell[0], cell[1], -1));
                Check.refused(x, "set beyond, kind 4", Check.INDEX, () -> x.set(cell[0], cell[1], 4));
            }
        }
    }

    // "what the cell there is from now on, 0 to 3"
    private static void kinds() {
        SparkBoards x = Check.drawn("cHt", "...", "...");
        Check.due("set(1, 1, 0)", x.set(1, 1, 0), 0);
        Check.due("set(1, 1, 3)", x.set(1, 1, 3), 0);
        Check.due("set(1, 1, 0)", x.set(1, 1, 0), 3);
        int[] wrong = {-1, 4, 5, -4, 256, Integer.MIN_VALUE, Integer.MAX_VALUE};
        for (int kind : wrong) {
            for (int column = 0; column < 3; column++) {
                int at = column;
                Check.refused(x, "set(" + at + ", 0, " + kind + ")", Check.ARGUMENT, () -> x.set(at, 0, kind));
                Check.refused(x, "set(" + at + ", 2, " + kind + ")", Check.ARGUMENT, () -> x.set(at, 2, kind));
            }
        }
    }

    private static void onAFullBoard() {
        for (int kind = 0; kind <= 3; kind++) {
            SparkBoards x = Check.full(10, 10, ".cHt".charAt(kind));
            String before = Check.all(x);
            Check.due("set(9, 9, " + kind + ")", x.set(9, 9, kind), kind);
            Check.dueText("the same kind again", Check.all(x), before);
            Check.due("set(9, 9) to empty", x.set(9, 9, 0), kind);
            Check.due("not empty", x.count(3) + x.count(4) + x.count(5), kind == 0 ? 0 : 99);
        }
    }

    private static void lightsNoLamp() {
        SparkBoards x = new SparkBoards();
        x.lamp(7, 5);
        x.set(7, 5, 2);
        Check.due("times lit", x.about(0, 2), 0);
        Check.due("steps", x.count(0), 0);
        Check.due("lamps", x.count(8), 1);
        x.set(7, 5, 0);
        Check.due("the lamp stays as its cell is emptied", x.about(0, 0) * 10 + x.about(0, 1), 75);
    }
}
