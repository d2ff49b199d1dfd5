public final class P03SetTest {
    public static void main(String[] args) {
        SparkBoards x = new SparkBoards();
        for (int before = 0; before <= 3; before++) {
            for (int kind = 0; kind <= 3; kind++) {
                x.set(7, 5, before);
                Check.due("set(7, 5, " + kind + ")", x.set(7, 5, kind), before);
                Check.due("told(7, 5, 0)", x.told(7, 5, 0), kind);
            }
        }
        x.set(1, 0, 2);
        Check.duePicture("only these", x, ".H......", "........", "........", "........", "........", ".......t");
        int[][] beyond = {{-1, 0}, {0, -1}, {8, 0}, {0, 6}, {Integer.MAX_VALUE, 0}, {0, Integer.MIN_VALUE}};
        for (int[] at : beyond) {
            Check.refused(x, "set beyond", IndexOutOfBoundsException.class, () -> x.set(at[0], at[1], 1));
            Check.refused(x, "set beyond, no kind", IndexOutOfBoundsException.class, () -> x.set(at[0], at[1], 4));
        }
        int[] kinds = {-1, 4, Integer.MAX_VALUE, Integer.MIN_VALUE};
        for (int kind : kinds) {
            Check.refused(x, "set(1, 0, " + kind + ")", IllegalArgumentException.class, () -> x.set(1, 0, kind));
        }
        Check.end();
    }
}
