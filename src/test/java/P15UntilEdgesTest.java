public final class P15UntilEdgesTest {
    // A board that was found by trying: (5, 9) is a head behind 151 steps for the first time.
    private static final String[] LATE = {"cccc.c.ccc", "cHcccc.c..", "cHcccH.cc.", "c.ccHccccc", "tcccccc.c.",
        "c..ccccccc", ".ccccccccc", "c.ttc..ccc", "ccccc..ccc", "ct.ctcc..t"};

    public static void main(String[] args) {
        itIsAHeadNow();
        emptyAndFullBoards();
        atMost150();
        alongALine();
        firstCellsThatAreNot();
        Check.end();
    }

    // "0 if it is now"
    private static void itIsAHeadNow() {
        for (int[] side : Check.sides()) {
            SparkBoards x = Check.full(side[0], side[1], 'H');
            for (int[] cell : Check.corners(side[0], side[1])) {
                dueUntil(x, cell[0], cell[1], 0);
            }
        }
        SparkBoards ring = Check.drawn(".H.", "t.c", ".c.");
        dueUntil(ring, 1, 0, 0);
        dueUntil(ring, 2, 1, 1);
        dueUntil(ring, 1, 2, 2);
        dueUntil(ring, 0, 1, 3);
    }

    // "-1 if not by then"
    private static void emptyAndFullBoards() {
        for (int[] side : Check.sides()) {
            for (char kind : new char[] {'.', 'c', 't'}) {
                SparkBoards x = Check.full(side[0], side[1], kind);
                for (int[] cell : Check.corners(side[0], side[1])) {
                    dueUntil(x, cell[0], cell[1], -1);
                }
            }
        }
        SparkBoards x = Check.full(3, 3, 'H');
        x.set(1, 1, 0);
        dueUntil(x, 1, 1, -1);
        x.set(1, 1, 1);
        dueUntil(x, 1, 1, -1);
        x.pass(1);
        dueUntil(x, 0, 0, -1);
    }

    // "at most 150"
    private static void atMost150() {
        SparkBoards x = Check.drawn(LATE);
        dueUntil(x, 5, 9, -1);
        for (int due = 150; due > 145; due--) {
            x.pass(1);
            dueUntil(x, 5, 9, due);
        }
        SparkBoards y = Check.drawn(LATE);
        y.lamp(5, 9);
        y.pass(100);
        y.pass(50);
        Check.due("behind 150 steps not yet", y.about(0, 2), 0);
        dueUntil(y, 5, 9, 1);
        y.pass(1);
        Check.due("behind 151 steps", y.about(0, 3), 151);
        dueUntil(y, 5, 9, 0);
    }

    private static void alongALine() {
        SparkBoards x = Check.full(10, 3, '.');
        x.line(0, 2, 9, 2);
        x.spark(8, 2, 4);
        for (int column = 0; column < 9; column++) {
            dueUntil(x, column, 2, 8 - column);
        }
        dueUntil(x, 9, 2, -1);
        dueUntil(x, 0, 1, -1);
    }

    // "Throws IndexOutOfBoundsException if there is no such cell"
    private static void firstCellsThatAreNot() {
        for (int[] side : Check.sides()) {
            for (char kind : new char[] {'.', 'H'}) {
                SparkBoards x = Check.full(side[0], side[1], kind);
                for (int[] cell : Check.beyond(side[0], side[1])) {
                    Check.refused(x, "until beyond", Check.INDEX, () -> x.until(cell[0], cell[1]));
                }
            }
        }
    }

    private static void dueUntil(SparkBoards x, int column, int row, int due) {
        String call = "until(" + column + ", " + row + ")";
        String before = Check.all(x);
        Check.due(call, x.until(column, row), due);
        Check.dueText("nothing is changed by " + call, Check.all(x), before);
    }
}
