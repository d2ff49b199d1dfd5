public final class P11AboutTest {
    public static void main(String[] args) {
        SparkBoards x = Check.drawn("tHcccc", "......", "......");
        Check.refused(x, "about(0, 0), no lamp", IndexOutOfBoundsException.class, () -> x.about(0, 0));
        x.lamp(2, 0);
        x.lamp(5, 1);
        dueAbout(x, 0, 2, 0, 0, 0);
        dueAbout(x, 1, 5, 1, 0, 0);
        x.pass(1);
        dueAbout(x, 0, 2, 0, 1, 1);
        x.set(1, 0, 2);
        x.pass(4);
        // The tail at (2, 0) is copper when that head has gone, so it is not lit again.
        dueAbout(x, 0, 2, 0, 1, 1);
        x.pass(10);
        x.set(1, 0, 2);
        x.pass(3);
        dueAbout(x, 0, 2, 0, 2, 16);
        dueAbout(x, 1, 5, 1, 0, 0);
        int[][] wrong = {{-1, 0}, {2, 0}, {0, -1}, {0, 4}, {Integer.MAX_VALUE, 0}, {0, Integer.MIN_VALUE}, {5, 9}};
        for (int[] a : wrong) {
            Check.refused(x, "about", IndexOutOfBoundsException.class, () -> x.about(a[0], a[1]));
        }
        Check.end();
    }

    private static void dueAbout(SparkBoards x, int lamp, int... due) {
        for (int what = 0; what < due.length; what++) {
            Check.due("about(" + lamp + ", " + what + ")", x.about(lamp, what), due[what]);
        }
    }
}
