import java.util.Arrays;

/** What the tests share: they print each answer that is not due, and end with 1 if there was one. */
final class Check {
    interface Call {
        long answer();
    }

    static final Class<IllegalArgumentException> ARGUMENT = IllegalArgumentException.class;
    static final Class<IndexOutOfBoundsException> INDEX = IndexOutOfBoundsException.class;
    static final Class<IllegalStateException> STATE = IllegalStateException.class;
    private static final int LEAST = Integer.MIN_VALUE;
    private static final int MOST = Integer.MAX_VALUE;

    private static int asked = 0;
    private static int wrong = 0;

    private Check() {
    }

    static void due(String call, long got, long due) {
        judge(call, got == due, Long.toString(got), Long.toString(due));
    }

    static void dueDouble(String call, double got, double due) {
        judge(call, got == due, Double.toString(got), Double.toString(due));
    }

    static void duePicture(String when, SparkBoards x, String... due) {
        String got = String.join("/", picture(x));
        judge(when, got.equals(String.join("/", due)), got, String.join("/", due));
    }

    static void dueText(String what, String got, String due) {
        judge(what, got.equals(due), got, due);
    }

    /** The call has to throw exactly this class, and to leave all that can be told as it was. */
    static void refused(SparkBoards x, String call, Class<? extends RuntimeException> due, Call made) {
        String before = all(x);
        String got;
        try {
            got = Long.toString(made.answer());
        } catch (RuntimeException e) {
            got = e.getClass().getName();
        }
        judge(call, got.equals(due.getName()), got, due.getName());
        judge(call + " changes nothing", all(x).equals(before), all(x), before);
    }

    /** The call has to leave all that can be told as it was. */
    static void unchanged(SparkBoards x, String call, Call made) {
        String before = all(x);
        made.answer();
        judge(call + " changes nothing", all(x).equals(before), all(x), before);
    }

    /** A new object with the cells as drawn: '.' empty, 'c' copper, 'H' a head, 't' a tail. */
    static SparkBoards drawn(String... rows) {
        SparkBoards x = new SparkBoards();
        draw(x, rows);
        return x;
    }

    static void draw(SparkBoards x, String... rows) {
        x.setBoard(rows[0].length(), rows.length);
        for (int row = 0; row < rows.length; row++) {
            for (int column = 0; column < rows[row].length(); column++) {
                x.set(column, row, ".cHt".indexOf(rows[row].charAt(column)));
            }
        }
    }

    /** A new object with all cells of one kind. */
    static SparkBoards full(int w, int h, char kind) {
        String[] rows = new String[h];
        Arrays.fill(rows, String.valueOf(kind).repeat(w));
        return drawn(rows);
    }

    /** Pairs that are no cell of a board of w columns and h rows, the nearest ones and ones far off. */
    static int[][] beyond(int w, int h) {
        // The last ones would get the number of a cell, if w * y + x were all that is looked at.
        return new int[][] {{-1, 0}, {w, 0}, {0, -1}, {0, h}, {-1, h - 1}, {w, h - 1}, {w - 1, -1}, {w - 1, h},
            {-1, -1}, {w, h}, {LEAST, 0}, {MOST, 0}, {0, LEAST}, {0, MOST}, {LEAST, LEAST}, {MOST, MOST}, {LEAST, MOST},
            {-1, 1}, {-w, 1}, {w + 1, 0}, {2 * w, -1}, {0, 1 << 30}, {0, 1 << 31}, {0, 1 << 29}};
    }

    /** The four cells that are the last ones of a board of w columns and h rows. */
    static int[][] corners(int w, int h) {
        return new int[][] {{0, 0}, {w - 1, 0}, {0, h - 1}, {w - 1, h - 1}};
    }

    /** Sides of boards: the smallest and the largest in each direction, the first of all, and one between. */
    static int[][] sides() {
        return new int[][] {{3, 3}, {3, 10}, {10, 3}, {10, 10}, {8, 6}, {5, 7}};
    }

    static String[] picture(SparkBoards x) {
        String[] rows = new String[x.count(2)];
        Arrays.fill(rows, "");
        for (int row = 0; row < rows.length; row++) {
            for (int column = 0; column < x.count(1); column++) {
                rows[row] += ".cHt".charAt(x.told(column, row, 0));
            }
        }
        return rows;
    }

    /** All that the object tells, as a text. */
    static String all(SparkBoards x) {
        StringBuilder text = new StringBuilder(String.join("/", picture(x)));
        for (int what = 0; what < 10; what++) {
            text.append(' ').append(x.count(what));
        }
        for (int lamp = 0; lamp < x.count(8); lamp++) {
            for (int what = 0; what < 4; what++) {
                text.append(what == 0 ? " lamp " : ",").append(x.about(lamp, what));
            }
        }
        return text.append(' ').append(x.mean()).append(' ').append(x.digest()).toString();
    }

    static void end() {
        System.out.println(wrong == 0 ? asked + " answers are as due" : wrong + " of " + asked + " answers are not as due");
        if (wrong != 0) {
            System.exit(1);
        }
    }

    private static void judge(String call, boolean right, String got, String due) {
        asked++;
        if (!right) {
            wrong++;
            System.out.println(call + ": answered " + got + ", due is " + due);
        }
    }
}
