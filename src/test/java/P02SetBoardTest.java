public final class P02SetBoardTest {
    public static void main(String[] args) {
        sizes();
        takesAllButTheSteps();
        refuses();
        Check.end();
    }

    private static void sizes() {
        SparkBoards x = new SparkBoards();
        for (int w = 3; w <= 10; w++) {
            for (int h = 3; h <= 10; h++) {
                Check.due("setBoard(" + w + ", " + h + ")", x.setBoard(w, h), w * h);
                Check.due("count(1)", x.count(1), w);
                Check.due("count(2)", x.count(2), h);
                Check.due("the last cell", x.set(w - 1, h - 1, 1), 0);
                Check.due("count(3)", x.count(3), 1);
            }
        }
    }

    private static void takesAllButTheSteps() {
        SparkBoards x = Check.drawn("tHccc", ".....", "ccccc", "ccccc");
        x.lamp(2, 0);
        x.lamp(0, 0);
        x.pass(2);
        Check.due("count(9) ahead", x.count(9), 1);
        Check.due("setBoard(3, 10)", x.setBoard(3, 10), 30);
        Check.duePicture("another board", x, "...", "...", "...", "...", "...", "...", "...", "...", "...", "...");
        Check.due("count(8)", x.count(8), 0);
        Check.due("count(9)", x.count(9), 0);
        Check.due("count(0)", x.count(0), 2);
        Check.dueDouble("mean()", x.mean(), 1.0);
        Check.refused(x, "about(0, 0)", IndexOutOfBoundsException.class, () -> x.about(0, 0));
        Check.due("lamp(1, 1)", x.lamp(1, 1), 0);
        Check.due("about(0, 2)", x.about(0, 2), 0);
        Check.due("about(0, 3)", x.about(0, 3), 0);
        x.setBoard(10, 10);
        Check.due("nothing is left", x.count(3) + x.count(4) + x.count(5) + x.count(6), 0);
    }

    private static void refuses() {
        SparkBoards x = Check.drawn("tHc", "...", "c.c");
        x.lamp(1, 1);
        int[] sides = {2, 11, 0, -1, -3, Integer.MAX_VALUE, Integer.MIN_VALUE};
        for (int side : sides) {
            Check.refused(x, "setBoard(" + side + ", 5)", IllegalArgumentException.class, () -> x.setBoard(side, 5));
            Check.refused(x, "setBoard(5, " + side + ")", IllegalArgumentException.class, () -> x.setBoard(5, side));
        }
    }
}
