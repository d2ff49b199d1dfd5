public final class P11AboutEdgesTest {
    private static final int[] FAR_OFF = {Integer.MIN_VALUE, Integer.MAX_VALUE};

    public static void main(String[] args) {
        numbersOfLamps();
        numbersOfWhat();
        theFirstStepOfAll();
        notLitYet();
        litTheMostTimes();
        onAnotherBoard();
        Check.end();
    }

    // "Throws IndexOutOfBoundsException if there is no such lamp"
    private static void numbersOfLamps() {
        SparkBoards x = Check.full(10, 10, 'c');
        for (int lamps = 0; lamps <= 5; lamps++) {
            for (int what = 0; what <= 3; what++) {
                int first = lamps;
                int w = what;
                Check.refused(x, "about(" + first + ", " + w + ")", Check.INDEX, () -> x.about(first, w));
                Check.refused(x, "about(5, " + w + ")", Check.INDEX, () -> x.about(5, w));
                Check.refused(x, "about(-1, " + w + ")", Check.INDEX, () -> x.about(-1, w));
                for (int far : FAR_OFF) {
                    Check.refused(x, "about(" + far + ", " + w + ")", Check.INDEX, () -> x.about(far, w));
                }
            }
            if (lamps < 5) {
                x.lamp(9 - lamps, lamps);
                Check.due("the last lamp's column", x.about(lamps, 0), 9 - lamps);
                Check.due("the last lamp's row", x.about(lamps, 1), lamps);
                Check.due("the first lamp's column", x.about(0, 0), 9);
            }
        }
    }

    // "what is not 0 to 3"
    private static void numbersOfWhat() {
        SparkBoards x = Check.full(3, 3, 'c');
        for (int lamp = 0; lamp < 5; lamp++) {
            int l = lamp;
            x.lamp(1, 2);
            int[] wrong = {-1, 4, -4, 5, FAR_OFF[0], FAR_OFF[1]};
            for (int what : wrong) {
                Check.refused(x, "about(" + l + ", " + what + ")", Check.INDEX, () -> x.about(l, what));
                Check.refused(x, "about(5, " + what + ")", Check.INDEX, () -> x.about(5, what));
            }
        }
        Check.due("about(4, 0)", x.about(4, 0), 1);
        Check.due("about(4, 3)", x.about(4, 3), 0);
    }

    // "3 the step behind which it was lit the latest time (the step is 1 behind the first one of all)"
    private static void theFirstStepOfAll() {
        SparkBoards x = Check.drawn("tHc", "...", "...");
        x.lamp(2, 0);
        x.pass(1);
        dueAbout(x, 0, 2, 0, 1, 1);
        x.pass(100);
        dueAbout(x, 0, 2, 0, 1, 1);
    }

    // "0 if it was not yet"
    private static void notLitYet() {
        SparkBoards x = Check.full(3, 3, 'H');
        x.lamp(1, 1);
        dueAbout(x, 0, 1, 1, 0, 0);
        x.pass(100);
        dueAbout(x, 0, 1, 1, 0, 0);
    }

    // A ring of four cells lights its lamp each fourth step, up to the last one that goes by.
    private static void litTheMostTimes() {
        SparkBoards x = Check.full(3, 3, '.');
        x.ring(0, 0, 3, 3);
        x.spark(1, 0, 7);
        x.lamp(1, 0);
        x.pass(3);
        dueAbout(x, 0, 1, 0, 0, 0);
        x.pass(1);
        dueAbout(x, 0, 1, 0, 1, 4);
        x.pass(96);
        dueAbout(x, 0, 1, 0, 25, 100);
        x.pass(100);
        dueAbout(x, 0, 1, 0, 50, 200);
        x.set(1, 0, 0);
        x.pass(100);
        dueAbout(x, 0, 1, 0, 50, 200);
    }

    private static void onAnotherBoard() {
        SparkBoards x = Check.drawn("tHc", "...", "...");
        x.lamp(2, 0);
        x.pass(100);
        Check.draw(x, "tHc", "...", "...");
        Check.refused(x, "about(0, 0), the lamp is gone", Check.INDEX, () -> x.about(0, 0));
        x.lamp(2, 0);
        dueAbout(x, 0, 2, 0, 0, 0);
        x.pass(1);
        dueAbout(x, 0, 2, 0, 1, 101);
    }

    private static void dueAbout(SparkBoards x, int lamp, int... due) {
        for (int what = 0; what < due.length; what++) {
            Check.due("about(" + lamp + ", " + what + ")", x.about(lamp, what), due[what]);
        }
    }
}
