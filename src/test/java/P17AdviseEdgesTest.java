public final class P17AdviseEdgesTest {
    public static void main(String[] args) {
        numbersOfSteps();
        emptyAndFullBoards();
        firstAndLastCell();
        ofSeveralTheSmallest();
        noFewerThanWithout();
        onlyCopper();
        ifItWasEmptyNow();
        Check.end();
    }

    // "Throws IllegalArgumentException if steps is not 1 to 4"
    private static void numbersOfSteps() {
        int[] wrong = {0, 5, -1, -4, 6, Integer.MIN_VALUE, Integer.MAX_VALUE};
        SparkBoards[] boards = {new SparkBoards(), Check.full(10, 10, 'H'), Check.drawn("tHcccc", "......", "......")};
        for (SparkBoards x : boards) {
            for (int steps : wrong) {
                Check.refused(x, "advise(" + steps + ")", Check.ARGUMENT, () -> x.advise(steps));
            }
        }
        dueAdvice(boards[2], 1, 2);
        dueAdvice(boards[2], 4, 2);
    }

    // "-1 if there would be fewer than without by none"
    private static void emptyAndFullBoards() {
        for (int[] side : Check.sides()) {
            for (char kind : new char[] {'.', 'c', 'H', 't'}) {
                for (int steps = 1; steps <= 4; steps++) {
                    dueAdvice(Check.full(side[0], side[1], kind), steps, -1);
                }
            }
        }
    }

    // "Returns the number of its cell"
    private static void firstAndLastCell() {
        for (int[] side : Check.sides()) {
            int last = side[0] * side[1] - 1;
            SparkBoards x = Check.full(side[0], side[1], '.');
            x.line(0, 0, 2, 0);
            x.spark(1, 0, 4);
            dueAdvice(x, 1, 0);
            x = Check.full(side[0], side[1], '.');
            x.line(side[0] - 3, side[1] - 1, side[0] - 1, side[1] - 1);
            x.spark(side[0] - 2, side[1] - 1, 0);
            dueAdvice(x, 1, last);
            dueAdvice(x, 2, -1);
        }
    }

    // "of several the smallest"
    private static void ofSeveralTheSmallest() {
        // Each of the eight cells around the head is a head behind a step.
        SparkBoards x = Check.full(3, 3, 'c');
        x.set(1, 1, 2);
        dueAdvice(x, 1, 0);
        x.set(0, 0, 0);
        dueAdvice(x, 1, 1);
        x.set(1, 0, 0);
        x.set(2, 0, 0);
        x.set(0, 1, 0);
        dueAdvice(x, 1, 5);
        // Two wires, each with one head: the cut of either is as good, and so is each cell of it that the head reaches.
        x = Check.drawn("..........", "ccccHt....", "..........", "tHcccc....");
        dueAdvice(x, 4, 10);
        dueAdvice(x, 3, 11);
        dueAdvice(x, 2, 12);
        dueAdvice(x, 1, 13);
    }

    private static void noFewerThanWithout() {
        // The spark is at its last cell, or beside none.
        dueAdvice(Check.drawn("ctH", "...", "ccc"), 1, -1);
        // Behind two steps it has died out, cut or not; by one step more it is no better.
        dueAdvice(Check.drawn("tHc", "...", "..."), 2, -1);
        dueAdvice(Check.drawn("tHc", "...", "..."), 3, -1);
        // Two heads meet at a cell: it is cut for one head fewer, none of the others helps.
        dueAdvice(Check.drawn("HcH", "...", "ccc"), 1, 1);
        dueAdvice(Check.drawn("HcH", ".H.", "..."), 1, -1);
    }

    // "Looks for the copper": heads, tails and empty cells are not cut
    private static void onlyCopper() {
        SparkBoards x = Check.drawn(".tH.", "....", "....");
        for (int steps = 1; steps <= 4; steps++) {
            dueAdvice(x, steps, -1);
        }
        x = Check.drawn(".H.", "t.c", ".t.");
        dueAdvice(x, 1, 5);
        // Behind 2 steps (1, 2) is a head, but now it is a tail.
        dueAdvice(x, 2, 5);
    }

    // "if it was empty now": not when the head comes there
    private static void ifItWasEmptyNow() {
        SparkBoards x = Check.drawn("tHcc.", "..c..", ".....");
        // Behind 1 step (2, 0) and (2, 1) are heads; behind 2 steps (3, 0) is, by both or by either of them.
        dueAdvice(x, 1, 2);
        dueAdvice(x, 2, 3);
        SparkBoards y = Check.drawn("tHcc.", "..c..", ".....");
        y.set(2, 0, 0);
        Check.due("heads behind 2 steps, with (2, 0) cut", y.foresee(2, 4), 1);
    }

    private static void dueAdvice(SparkBoards x, int steps, int due) {
        String before = Check.all(x);
        Check.due("advise(" + steps + ")", x.advise(steps), due);
        Check.dueText("nothing is changed by advise(" + steps + ")", Check.all(x), before);
    }
}
