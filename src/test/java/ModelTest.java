import java.lang.reflect.InvocationTargetException;
import java.lang.reflect.Method;
import java.util.Arrays;

/** Long runs of calls, whose answers have to be those of the model; always the same runs. */
public final class ModelTest {
    private static final int RUNS = 150;
    private static final int CALLS = 512;
    // Each name as often as it is to be drawn: boards last for a while, and what takes the model long is rare.
    private static final String[] NAMES = ("setBoard set set set set line line line line ring ring stamp stamp "
        + "spark spark spark spark lamp lamp pass pass told told told about about count count way way "
        + "period period until until foresee foresee advise advise mean digest").split(" ");
    private static final int[] FAR_OFF = {Integer.MIN_VALUE, Integer.MAX_VALUE, -1000000, 1000000};

    private long state;

    private ModelTest(long start) {
        state = start;
    }

    public static void main(String[] args) {
        for (int run = 0; run < RUNS; run++) {
            new ModelTest(run * 7919L + 1).run(run);
        }
        Check.end();
    }

    private void run(int run) {
        SparkBoards x = new SparkBoards();
        Model model = new Model();
        for (int i = 0; i < CALLS; i++) {
            String name = NAMES[next(NAMES.length)];
            int[] arguments = arguments(name, x.count(1), x.count(2));
            if (arguments.length > 0 && next(12) == 0) {
                spoil(arguments);
            }
            String call = "run " + run + ", call " + i + ": " + name + Arrays.toString(arguments);
            Check.dueText(call, answer(x, name, arguments), answer(model, name, arguments));
        }
        Check.due("run " + run + ", digest() at its end", x.digest(), model.digest());
    }

    private int[] arguments(String name, int w, int h) {
        int x = next(w);
        int y = next(h);
        int steps = 1 + next(next(4) == 0 ? 100 : 5);
        switch (name) {
            case "setBoard":
                return new int[] {3 + next(8), 3 + next(8)};
            case "set":
                return new int[] {x, y, next(4)};
            case "line":
                int length = next(7);
                return new int[] {x, y, x + length * (next(3) - 1), y + length * (next(3) - 1)};
            case "ring":
                return new int[] {x / 2, y / 2, 2 + next(5), 2 + next(5)};
            case "stamp":
                return new int[] {next(4), next(4), next(w - 2), next(h - 2)};
            case "spark":
                return new int[] {x, y, next(8)};
            case "lamp":
            case "until":
                return new int[] {x, y};
            case "pass":
                return new int[] {steps};
            case "told":
                return new int[] {x, y, next(5)};
            case "about":
                return new int[] {next(5), next(4)};
            case "count":
                return new int[] {next(10)};
            case "way":
                return new int[] {x, y, next(w), next(h)};
            case "period":
                return new int[] {next(2)};
            case "foresee":
                return new int[] {steps, next(4) == 0 ? 9 : 3 + next(3)};
            case "advise":
                return new int[] {1 + next(4)};
            default:
                return new int[0];
        }
    }

    private void spoil(int[] arguments) {
        int[] others = {FAR_OFF[next(FAR_OFF.length)], -1, 0, 1 + next(12)};
        arguments[next(arguments.length)] = others[next(others.length)];
    }

    static String answer(Object x, String name, int[] arguments) {
        try {
            return String.valueOf(method(x, name).invoke(x, Arrays.stream(arguments).boxed().toArray()));
        } catch (InvocationTargetException e) {
            return e.getCause().getClass().getName();
        } catch (IllegalAccessException e) {
            throw new AssertionError(e);
        }
    }

    private static Method method(Object x, String name) {
        for (Method method : x.getClass().getDeclaredMethods()) {
            if (method.getName().equals(name)) {
                return method;
            }
        }
        throw new IllegalArgumentException(name);
    }

    private int next(int bound) {
        state = state * 6364136223846793005L + 1442695040888963407L;
        return (int) ((state >>> 33) % bound);
    }
}
