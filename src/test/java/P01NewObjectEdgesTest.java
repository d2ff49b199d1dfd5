/** "Creates an empty board of 8 columns and 6 rows, without lamps, at the step 0." */
public final class P01NewObjectEdgesTest {
    public static void main(String[] args) {
        allCellsAreEmpty();
        hasNothingMore();
        hasNoLamps();
        isAtTheStepNought();
        answersWhatWouldBe();
        Check.end();
    }

    private static void allCellsAreEmpty() {
        SparkBoards x = new SparkBoards();
        for (int number = 0; number < 48; number++) {
            for (int what = 0; what <= 4; what++) {
                Check.due("told(" + number + ", " + what + ")", x.told(number % 8, number / 8, what), 0);
            }
        }
        Check.due("copper, heads, tails", x.count(3) + x.count(4) + x.count(5), 0);
        Check.due("pieces, the longest", x.count(6) + x.count(7), 0);
    }

    private static void hasNothingMore() {
        SparkBoards x = new SparkBoards();
        Check.due("columns", x.count(1), 8);
        Check.due("rows", x.count(2), 6);
        for (int[] cell : Check.beyond(8, 6)) {
            Check.refused(x, "told beyond", Check.INDEX, () -> x.told(cell[0], cell[1], 0));
            Check.refused(x, "set beyond", Check.INDEX, () -> x.set(cell[0], cell[1], 1));
        }
        for (int[] cell : Check.corners(8, 6)) {
            Check.due("set at a corner", x.set(cell[0], cell[1], 1), 0);
        }
    }

    private static void hasNoLamps() {
        SparkBoards x = new SparkBoards();
        Check.due("lamps", x.count(8), 0);
        Check.due("times lit", x.count(9), 0);
        for (int what = 0; what <= 3; what++) {
            int w = what;
            Check.refused(x, "about(0, " + w + ")", Check.INDEX, () -> x.about(0, w));
        }
        Check.due("the first lamp", x.lamp(7, 5), 0);
    }

    private static void isAtTheStepNought() {
        SparkBoards x = new SparkBoards();
        Check.due("steps", x.count(0), 0);
        Check.dueDouble("mean()", x.mean(), 0.0);
        Check.due("digest()", x.digest(), 8870499433836769123L);
        x.pass(1);
        Check.due("the first step", x.count(0), 1);
    }

    private static void answersWhatWouldBe() {
        SparkBoards x = new SparkBoards();
        Check.due("way", x.way(0, 0, 7, 5), -1);
        Check.due("period(0)", x.period(0), 0);
        Check.due("period(1)", x.period(1), 1);
        Check.due("until", x.until(7, 5), -1);
        int[] whats = {3, 4, 5, 9};
        for (int what : whats) {
            Check.due("foresee(100, " + what + ")", x.foresee(100, what), 0);
        }
        Check.due("advise(4)", x.advise(4), -1);
        Check.due("pass(100)", x.pass(100), 0);
    }
}
