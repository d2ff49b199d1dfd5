public final class P14PeriodEdgesTest {
    public static void main(String[] args) {
        numbersOfWhat();
        emptyAndFullBoards();
        leastNumberAndFewestMore();
        ninetyStepsAtMost();
        lampsAndStepsAreNoPartOfIt();
        asTheStepsGoBy();
        Check.end();
    }

    // "Throws IndexOutOfBoundsException if what is not 0 or 1"
    private static void numbersOfWhat() {
        int[] wrong = {-1, 2, -2, 3, Integer.MIN_VALUE, Integer.MAX_VALUE};
        SparkBoards[] boards = {new SparkBoards(), Check.full(10, 10, 'c'), Check.drawn("tHc", "...", "...")};
        for (SparkBoards x : boards) {
            for (int what : wrong) {
                Check.refused(x, "period(" + what + ")", Check.INDEX, () -> x.period(what));
            }
        }
    }

    // "behind some number of steps, 0 or more, all cells are as they are behind some more steps"
    private static void emptyAndFullBoards() {
        for (int[] side : Check.sides()) {
            duePeriod("empty", Check.full(side[0], side[1], '.'), 0, 1);
            duePeriod("copper", Check.full(side[0], side[1], 'c'), 0, 1);
            duePeriod("heads", Check.full(side[0], side[1], 'H'), 2, 1);
            duePeriod("tails", Check.full(side[0], side[1], 't'), 1, 1);
            for (int[] cell : Check.corners(side[0], side[1])) {
                SparkBoards x = Check.full(side[0], side[1], 'c');
                x.set(cell[0], cell[1], 3);
                duePeriod("a tail in a corner alone", x, 1, 1);
                x = Check.full(side[0], side[1], '.');
                x.set(cell[0], cell[1], 2);
                duePeriod("a head in a corner alone", x, 2, 1);
            }
        }
    }

    // "for the first time (the least number of steps, and the fewest more)"
    private static void leastNumberAndFewestMore() {
        SparkBoards x = Check.full(3, 3, '.');
        x.ring(0, 0, 3, 3);
        x.spark(1, 0, 7);
        duePeriod("the smallest ring, which comes again behind 8, 12, ... steps too", x, 0, 4);
        // Two heads, across a ring of eight cells: it looks the same behind half a round.
        x = Check.drawn(".Ht.", "c..c", "c..c", ".tH.");
        duePeriod("two sparks across", x, 0, 4);
        x = Check.drawn(".Ht..t", "c..c..", "c..c..", ".tH...");
        duePeriod("a tail beside, which is copper from then on", x, 1, 4);
        x = Check.drawn(".Ht..H", "c..c..", "c..c..", ".tH...");
        duePeriod("a head beside, which is copper two steps on", x, 2, 4);
    }

    // "at most 90 steps are looked at in all": rings of 10 and 18 cells come again together behind 90.
    private static void ninetyStepsAtMost() {
        duePeriod("0 steps and 90 more", rings(3, 10, 4, 5), 0, 90);
        SparkBoards late = rings(3, 10, 4, 5);
        late.set(9, 9, 3);
        duePeriod("1 step and 90 more", late, -1, -1);
        late.pass(1);
        duePeriod("1 step and 90 more, a step later", late, 0, 90);
        // Rings of 8 and 22 cells come again together behind 88 steps; a tail is copper 1 step on, a head 2,
        // and a spark at the end of a wire of three cells 3.
        duePeriod("0 steps and 88 more", rings(5, 10, 4, 4), 0, 88);
        SparkBoards tail = rings(5, 10, 4, 4);
        tail.set(9, 9, 3);
        duePeriod("1 step and 88 more", tail, 1, 88);
        SparkBoards head = rings(5, 10, 4, 4);
        head.set(9, 9, 2);
        duePeriod("2 steps and 88 more", head, 2, 88);
        SparkBoards spark = rings(5, 10, 4, 4);
        spark.line(7, 9, 9, 9);
        spark.spark(8, 9, 0);
        duePeriod("3 steps and 88 more", spark, -1, -1);
        spark.pass(1);
        duePeriod("3 steps and 88 more, a step later", spark, 2, 88);
    }

    private static SparkBoards rings(int w, int h, int otherW, int otherH) {
        SparkBoards x = Check.full(10, 10, '.');
        x.ring(0, 0, w, h);
        x.spark(0, 2, 6);
        x.ring(10 - otherW, 0, otherW, otherH);
        x.spark(9, 2, 2);
        return x;
    }

    private static void lampsAndStepsAreNoPartOfIt() {
        SparkBoards x = Check.full(3, 3, '.');
        x.ring(0, 0, 3, 3);
        x.spark(1, 0, 7);
        for (int lamp = 0; lamp < 5; lamp++) {
            x.lamp(1, 0);
        }
        duePeriod("with lamps that are lit on and on", x, 0, 4);
        x.pass(99);
        duePeriod("99 steps later", x, 0, 4);
    }

    private static void asTheStepsGoBy() {
        // A spark on a line of ten cells is gone 10 steps on, as each that is further along is sooner.
        SparkBoards x = Check.full(10, 3, '.');
        x.line(0, 0, 9, 0);
        x.spark(1, 0, 0);
        for (int number = 10; number > 0; number--) {
            duePeriod("a spark on a line", x, number, 1);
            x.pass(1);
        }
        duePeriod("copper alone", x, 0, 1);
        x.pass(1);
        duePeriod("copper alone, later", x, 0, 1);
    }

    private static void duePeriod(String board, SparkBoards x, int first, int more) {
        String before = Check.all(x);
        Check.due("period(0) of " + board, x.period(0), first);
        Check.due("period(1) of " + board, x.period(1), more);
        Check.dueText("nothing is changed by period() of " + board, Check.all(x), before);
    }
}
