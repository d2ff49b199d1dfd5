public final class P08LampTest {
    public static void main(String[] args) {
        SparkBoards x = Check.drawn("tHcc", "....", "....");
        int[][] at = {{1, 0}, {2, 0}, {3, 2}, {2, 0}, {0, 1}};
        for (int i = 0; i < at.length; i++) {
            Check.due("lamp", x.lamp(at[i][0], at[i][1]), i);
            Check.due("its column", x.about(i, 0), at[i][0]);
            Check.due("its row", x.about(i, 1), at[i][1]);
            Check.due("not lit yet", x.about(i, 2), 0);
            Check.due("no step yet", x.about(i, 3), 0);
            Check.due("count(8)", x.count(8), i + 1);
        }
        Check.refused(x, "a sixth lamp", IllegalStateException.class, () -> x.lamp(0, 0));
        int[][] beyond = {{-1, 0}, {4, 0}, {0, -1}, {0, 3}, {Integer.MAX_VALUE, 0}, {0, Integer.MIN_VALUE}};
        SparkBoards y = Check.drawn("tHcc", "....", "....");
        for (int[] l : beyond) {
            Check.refused(x, "lamp beyond, with 5", IndexOutOfBoundsException.class, () -> x.lamp(l[0], l[1]));
            Check.refused(y, "lamp beyond", IndexOutOfBoundsException.class, () -> y.lamp(l[0], l[1]));
        }
        x.pass(1);
        Check.due("lamps on one cell, the first", x.about(1, 2), 1);
        Check.due("lamps on one cell, the second", x.about(3, 2), 1);
        x.setBoard(4, 4);
        Check.due("lamp on another board", x.lamp(3, 3), 0);
        Check.end();
    }
}
