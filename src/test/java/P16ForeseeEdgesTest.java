public final class P16ForeseeEdgesTest {
    private static final int[] WHATS = {3, 4, 5, 9};

    public static void main(String[] args) {
        numbersOfSteps();
        numbersOfWhat();
        stepsAheadOfWhat();
        emptyAndFullBoards();
        asItWillBe();
        timesLitAlready();
        Check.end();
    }

    // "Throws IllegalArgumentException if steps is not 1 to 100"
    private static void numbersOfSteps() {
        int[] wrong = {0, 101, -1, -100, 102, Integer.MIN_VALUE, Integer.MAX_VALUE};
        SparkBoards[] boards = {new SparkBoards(), Check.full(10, 10, 'H'), Check.drawn("tHc", "...", "...")};
        boards[2].lamp(2, 0);
        for (SparkBoards x : boards) {
            for (int steps : wrong) {
                for (int what : WHATS) {
                    String call = "foresee(" + steps + ", " + what + ")";
                    Check.refused(x, call, Check.ARGUMENT, () -> x.foresee(steps, what));
                }
            }
        }
        Check.due("foresee(1, 4)", boards[2].foresee(1, 4), 1);
        Check.due("foresee(100, 4)", boards[2].foresee(100, 4), 0);
    }

    // "Throws IndexOutOfBoundsException if what is none of these"
    private static void numbersOfWhat() {
        int[] wrong = {2, 6, 8, 10, 0, 1, 7, -1, -3, -9, Integer.MIN_VALUE, Integer.MAX_VALUE};
        SparkBoards[] boards = {new SparkBoards(), Check.full(10, 10, 'c'), Check.drawn("tHc", "...", "...")};
        boards[2].lamp(2, 0);
        for (SparkBoards x : boards) {
            for (int what : wrong) {
                Check.refused(x, "foresee(1, " + what + ")", Check.INDEX, () -> x.foresee(1, what));
                Check.refused(x, "foresee(100, " + what + ")", Check.INDEX, () -> x.foresee(100, what));
            }
        }
    }

    private static void stepsAheadOfWhat() {
        SparkBoards x = Check.drawn("tHc", "...", "...");
        int[] steps = {0, 101, Integer.MIN_VALUE, Integer.MAX_VALUE};
        int[] whats = {2, 6, 8, 10, Integer.MIN_VALUE, Integer.MAX_VALUE};
        for (int s : steps) {
            for (int what : whats) {
                Check.refused(x, "foresee(" + s + ", " + what + ")", Check.ARGUMENT, () -> x.foresee(s, what));
            }
        }
    }

    private static void emptyAndFullBoards() {
        for (int[] side : Check.sides()) {
            int size = side[0] * side[1];
            int[] ends = {1, 100};
            for (int steps : ends) {
                dueForeseen(Check.full(side[0], side[1], '.'), steps, 0, 0, 0, 0);
                dueForeseen(Check.full(side[0], side[1], 'c'), steps, size, 0, 0, 0);
                dueForeseen(Check.full(side[0], side[1], 't'), steps, size, 0, 0, 0);
            }
            dueForeseen(Check.full(side[0], side[1], 'H'), 1, 0, 0, size, 0);
            dueForeseen(Check.full(side[0], side[1], 'H'), 2, size, 0, 0, 0);
        }
    }

    // "3 to 5, or 9, as count() has it": "this, behind so many steps"
    private static void asItWillBe() {
        String[] rows = {".cc..ccc..", "t..c...cc.", ".Hc..ccc.c", "...c.cc.c.", "...ccccc.."};
        int[][] lamps = {{0, 1}, {5, 0}, {9, 2}, {7, 4}, {3, 3}};
        SparkBoards x = Check.drawn(rows);
        SparkBoards later = Check.drawn(rows);
        for (int[] lamp : lamps) {
            x.lamp(lamp[0], lamp[1]);
            later.lamp(lamp[0], lamp[1]);
        }
        String before = Check.all(x);
        for (int steps = 1; steps <= 100; steps++) {
            later.pass(1);
            for (int what : WHATS) {
                Check.due("foresee(" + steps + ", " + what + ")", x.foresee(steps, what), later.count(what));
            }
        }
        Check.dueText("nothing is changed", Check.all(x), before);
    }

    // "times that lamps were lit, of all that there are": those of steps that went by as well
    private static void timesLitAlready() {
        SparkBoards x = Check.full(3, 3, '.');
        x.ring(0, 0, 3, 3);
        x.spark(1, 0, 7);
        for (int lamp = 0; lamp < 5; lamp++) {
            x.lamp(1, 0);
        }
        Check.due("foresee(3, 9)", x.foresee(3, 9), 0);
        Check.due("foresee(4, 9)", x.foresee(4, 9), 5);
        Check.due("foresee(100, 9)", x.foresee(100, 9), 125);
        x.pass(100);
        Check.due("foresee(3, 9), 100 steps on", x.foresee(3, 9), 125);
        Check.due("foresee(4, 9), 100 steps on", x.foresee(4, 9), 130);
        x.setBoard(3, 3);
        Check.due("foresee(100, 9) on another board", x.foresee(100, 9), 0);
    }

    private static void dueForeseen(SparkBoards x, int steps, int... due) {
        String before = Check.all(x);
        for (int i = 0; i < due.length; i++) {
            Check.due("foresee(" + steps + ", " + WHATS[i] + ")", x.foresee(steps, WHATS[i]), due[i]);
        }
        Check.dueText("nothing is changed", Check.all(x), before);
    }
}
