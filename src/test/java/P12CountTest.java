public final class P12CountTest {
    public static void main(String[] args) {
        SparkBoards x = Check.drawn("tHccc.c", ".......", "cc.cc.H", "c.....t");
        dueCounts(x, 0, 7, 4, 9, 2, 2, 5, 5, 0, 0);
        x.lamp(2, 0);
        x.lamp(6, 3);
        x.lamp(3, 0);
        x.pass(2);
        dueCounts(x, 2, 7, 4, 11, 1, 1, 5, 5, 3, 2);
        x.set(5, 1, 1);
        dueCounts(x, 2, 7, 4, 12, 1, 1, 2, 11, 3, 2);
        dueCounts(Check.drawn("HHt", "HHt", "tcH"), 0, 3, 3, 1, 5, 3, 1, 9, 0, 0);
        diagonalsJoin();
        int[] wrong = {-1, 10, Integer.MAX_VALUE, Integer.MIN_VALUE};
        for (int what : wrong) {
            Check.refused(x, "count(" + what + ")", IndexOutOfBoundsException.class, () -> x.count(what));
        }
        Check.end();
    }

    private static void diagonalsJoin() {
        SparkBoards x = Check.drawn("c.c.c", ".c.c.", "c.c.c");
        dueCounts(x, 0, 5, 3, 8, 0, 0, 1, 8, 0, 0);
        x = Check.drawn("c.c.c", ".....", "c.c.c");
        dueCounts(x, 0, 5, 3, 6, 0, 0, 6, 1, 0, 0);
        x = Check.drawn("c..", "...", "c..");
        dueCounts(x, 0, 3, 3, 2, 0, 0, 2, 1, 0, 0);
        // The last cell of a row and the first of the next one are no neighbours.
        x = Check.drawn("....c", "c....", "....c");
        dueCounts(x, 0, 5, 3, 3, 0, 0, 3, 1, 0, 0);
    }

    private static void dueCounts(SparkBoards x, int... due) {
        for (int what = 0; what < due.length; what++) {
            Check.due("count(" + what + ")", x.count(what), due[what]);
        }
    }
}
