public final class P18MeanEdgesTest {
    public static void main(String[] args) {
        withoutAnyStep();
        stepsWithoutHeads();
        fractions();
        onWhicheverBoard();
        manyHeads();
        Check.end();
    }

    // "0 without any"
    private static void withoutAnyStep() {
        SparkBoards x = new SparkBoards();
        dueMean(x, 0, 1);
        x.setBoard(3, 3);
        dueMean(x, 0, 1);
        SparkBoards full = Check.full(10, 10, 'H');
        dueMean(full, 0, 1);
        full.foresee(100, 4);
        full.until(0, 0);
        full.period(0);
        full.advise(4);
        dueMean(full, 0, 1);
        Check.refused(full, "pass(0)", Check.ARGUMENT, () -> full.pass(0));
        Check.refused(full, "pass(101)", Check.ARGUMENT, () -> full.pass(101));
        dueMean(full, 0, 1);
    }

    private static void stepsWithoutHeads() {
        SparkBoards x = new SparkBoards();
        x.pass(100);
        dueMean(x, 0, 100);
        SparkBoards full = Check.full(10, 10, 'H');
        full.pass(1);
        dueMean(full, 0, 1);
    }

    // "the mean of heads behind each step that went by": no whole number, and not rounded
    private static void fractions() {
        SparkBoards x = Check.drawn("tHc", "...", "...");
        x.pass(3);
        dueMean(x, 1, 3);
        x.pass(3);
        dueMean(x, 1, 6);
        x.pass(1);
        dueMean(x, 1, 7);
        x.pass(93);
        dueMean(x, 1, 100);
    }

    // "on whichever board"
    private static void onWhicheverBoard() {
        SparkBoards x = Check.drawn("tHccc", ".....", ".....");
        x.pass(2);
        dueMean(x, 2, 2);
        x.setBoard(10, 10);
        dueMean(x, 2, 2);
        x.pass(1);
        dueMean(x, 2, 3);
        Check.draw(x, "ccc", "cHc", "ccc");
        x.pass(1);
        dueMean(x, 10, 4);
        x.setBoard(3, 3);
        x.setBoard(3, 3);
        dueMean(x, 10, 4);
    }

    private static void manyHeads() {
        SparkBoards x = Check.full(10, 10, 'c');
        for (int row = 0; row < 10; row += 3) {
            for (int column = 0; column < 10; column++) {
                x.set(column, row, column % 4 == 0 ? 2 : 1);
            }
        }
        int heads = x.pass(1);
        dueMean(x, heads, 1);
        Check.due("heads then", x.count(4), heads);
        int more = x.pass(1);
        dueMean(x, heads + more, 2);
    }

    private static void dueMean(SparkBoards x, int heads, int steps) {
        String before = Check.all(x);
        Check.dueDouble("mean()", x.mean(), (double) heads / steps);
        Check.dueText("nothing is changed by mean()", Check.all(x), before);
    }
}
