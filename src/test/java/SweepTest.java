import java.util.Arrays;
import java.util.function.Consumer;

/**
 * Each call with every choice among the numbers at its bounds, compared with the model; a call that is refused has to
 * leave the digest as it was, which all that can be told goes into.
 */
public final class SweepTest {
    private static final int LEAST = Integer.MIN_VALUE;
    private static final int MOST = Integer.MAX_VALUE;
    private static final int[] KINDS = {LEAST, -1, 0, 3, 4, MOST};
    private static final int[] NINES = {LEAST, -1, 0, 2, 3, 5, 6, 8, 9, 10, MOST};
    private static final int[] EIGHTS = {LEAST, -1, 0, 1, 2, 3, 4, 5, 6, 7, 8, MOST};
    private static final int[] HUNDREDS = {LEAST, -1, 0, 1, 2, 99, 100, 101, MOST};
    private static final int[] FOURS = {LEAST, -1, 0, 1, 2, 3, 4, 5, MOST};
    private static final int[] SIDES = {LEAST, -3, 0, 2, 3, 4, 9, 10, 11, MOST};

    private final String[] rows;
    private final int lamps;
    private SparkBoards x;
    private Model model;

    private SweepTest(int lamps, String... rows) {
        this.rows = rows;
        this.lamps = lamps;
        begin();
    }

    public static void main(String[] args) {
        new SweepTest(0, "...", "...", "...").sweep();
        new SweepTest(5, "ccc", "cct", "ccH").sweep();
        new SweepTest(4, "c.c", "cHc", "t..", "..c", "ccc", "c.c", "ctc", ".Hc", "..c", "ccH").sweep();
        new SweepTest(1, "tHcccccccc", "cccccccccc", "cccccccccc").sweep();
        new SweepTest(2, "cccccccc..", "cHt.....c.", "ccc.ccc.cc", "...cc.cc..", "H..c...cHt", "cc.c.t.c.c",
            "cccccccccc", "cccccccccc", "cccccccccc", "cccccccccc").sweep();
        Check.end();
    }

    private void sweep() {
        int[] columns = ends(rows[0].length());
        int[] lines = ends(rows.length);
        each("setBoard", SIDES, SIDES);
        each("set", columns, lines, KINDS);
        each("line", columns, lines, columns, lines);
        each("ring", columns, lines, rings(rows[0].length()), rings(rows.length));
        each("stamp", KINDS, KINDS, ends(rows[0].length() - 2), ends(rows.length - 2));
        each("spark", columns, lines, EIGHTS);
        each("lamp", columns, lines);
        each("pass", HUNDREDS);
        each("told", columns, lines, FOURS);
        each("about", FOURS, KINDS);
        each("count", NINES);
        each("way", columns, lines, columns, lines);
        each("period", FOURS);
        each("until", columns, lines);
        each("foresee", HUNDREDS, NINES);
        each("advise", FOURS);
        each("mean");
        each("digest");
    }

    private static int[] ends(int length) {
        return new int[] {LEAST, -1, 0, 1, length - 1, length, MOST};
    }

    private static int[] rings(int length) {
        return new int[] {LEAST, 2, 3, length - 1, length, length + 1, MOST};
    }

    private void each(String name, int[]... choices) {
        choose(choices, new int[0], arguments -> ask(name, arguments));
    }

    private static void choose(int[][] choices, int[] chosen, Consumer<int[]> then) {
        if (chosen.length == choices.length) {
            then.accept(chosen);
            return;
        }
        for (int choice : choices[chosen.length]) {
            int[] more = Arrays.copyOf(chosen, chosen.length + 1);
            more[chosen.length] = choice;
            choose(choices, more, then);
        }
    }

    private void ask(String name, int[] arguments) {
        String call = name + Arrays.toString(arguments) + " on " + String.join("/", rows);
        long before = x.digest();
        String due = ModelTest.answer(model, name, arguments);
        Check.dueText(call, ModelTest.answer(x, name, arguments), due);
        long after = x.digest();
        if (due.endsWith("Exception")) {
            Check.due(call + " changes nothing", after, before);
        } else if (after != before) {
            Check.due("the digest behind " + call, after, model.digest());
            begin();
        }
    }

    private void begin() {
        x = Check.drawn(rows);
        model = new Model();
        model.setBoard(rows[0].length(), rows.length);
        for (int number = 0; number < rows[0].length() * rows.length; number++) {
            int column = number % rows[0].length();
            int row = number / rows[0].length();
            model.set(column, row, x.told(column, row, 0));
        }
        for (int lamp = 0; lamp < lamps; lamp++) {
            x.lamp(lamp % 3, lamp / 3);
            model.lamp(lamp % 3, lamp / 3);
        }
        x.pass(2);
        model.pass(2);
    }
}
