public final class P10ToldTest {
    public static void main(String[] args) {
        SparkBoards x = Check.drawn("H.Hc.c", ".c.H.c", "Ht...c", "ccc...");
        dueTable(x, 0, "202101", "010201", "230001", "111000");
        dueTable(x, 1, "021210", "232110", "011110", "110000");
        dueTable(x, 2, "303201", "010301", "310001", "221000");
        dueTable(x, 3, "A0AA03", "0A0A03", "AA0003", "AAA000");
        dueTable(x, 4, "133241", "445252", "455231", "342111");
        pieceOfAll();
        refuses(x);
        Check.end();
    }

    private static void dueTable(SparkBoards x, int what, String... due) {
        for (int row = 0; row < due.length; row++) {
            for (int column = 0; column < due[row].length(); column++) {
                int is = Character.digit(due[row].charAt(column), 36);
                Check.due("told(" + column + ", " + row + ", " + what + ")", x.told(column, row, what), is);
            }
        }
    }

    private static void pieceOfAll() {
        SparkBoards x = new SparkBoards();
        x.setBoard(10, 10);
        for (int row = 0; row < 10; row++) {
            x.line(0, row, 9, row);
        }
        Check.due("told(9, 9, 3)", x.told(9, 9, 3), 100);
        Check.due("told(0, 5, 4)", x.told(0, 5, 4), 5);
        Check.due("told(5, 5, 4)", x.told(5, 5, 4), 8);
        Check.unchanged(x, "told(5, 5, 2)", () -> x.told(5, 5, 2));
    }

    private static void refuses(SparkBoards x) {
        int[][] wrong = {{-1, 0, 0}, {6, 0, 0}, {0, -1, 0}, {0, 4, 0}, {0, 0, -1}, {0, 0, 5},
            {Integer.MAX_VALUE, 0, 3}, {0, Integer.MIN_VALUE, 3}, {0, 0, Integer.MAX_VALUE}};
        for (int[] t : wrong) {
            Check.refused(x, "told", IndexOutOfBoundsException.class, () -> x.told(t[0], t[1], t[2]));
        }
    }
}
