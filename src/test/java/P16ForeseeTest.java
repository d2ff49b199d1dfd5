public final class P16ForeseeTest {
    public static void main(String[] args) {
        SparkBoards x = Check.drawn("tHccc", ".....", "ccc..");
        x.lamp(2, 0);
        x.lamp(4, 0);
        dueForeseen(x, 1, 6, 1, 1, 1);
        dueForeseen(x, 3, 6, 1, 1, 2);
        dueForeseen(x, 4, 7, 0, 1, 2);
        dueForeseen(x, 100, 8, 0, 0, 2);
        x.pass(1);
        dueForeseen(x, 1, 6, 1, 1, 1);
        dueForeseen(x, 2, 6, 1, 1, 2);
        SparkBoards ring = Check.drawn(".cc.", "t..c", ".Hc.");
        ring.lamp(0, 1);
        ring.lamp(0, 1);
        dueForeseen(ring, 100, 4, 1, 1, 32);
        ring.pass(100);
        Check.due("100 steps on", ring.count(9), 32);
        dueForeseen(ring, 1, 4, 1, 1, 34);
        Check.unchanged(ring, "foresee(7, 9)", () -> ring.foresee(7, 9));
        lamps();
        refuses(x);
        Check.end();
    }

    private static void dueForeseen(SparkBoards x, int steps, int copper, int heads, int tails, int lit) {
        Check.due("foresee(" + steps + ", 3)", x.foresee(steps, 3), copper);
        Check.due("foresee(" + steps + ", 4)", x.foresee(steps, 4), heads);
        Check.due("foresee(" + steps + ", 5)", x.foresee(steps, 5), tails);
        Check.due("foresee(" + steps + ", 9)", x.foresee(steps, 9), lit);
    }

    private static void lamps() {
        SparkBoards x = Check.drawn("cHt", "...", "...");
        Check.due("without any lamp", x.foresee(1, 9), 0);
        for (int lamp = 1; lamp <= 5; lamp++) {
            x.lamp(0, 0);
            Check.due("lamps: " + lamp, x.foresee(1, 9), lamp);
        }
    }

    private static void refuses(SparkBoards x) {
        int[] steps = {0, -1, 101, Integer.MAX_VALUE, Integer.MIN_VALUE};
        for (int s : steps) {
            Check.refused(x, "foresee(" + s + ", 4)", IllegalArgumentException.class, () -> x.foresee(s, 4));
            Check.refused(x, "foresee(" + s + ", 8)", IllegalArgumentException.class, () -> x.foresee(s, 8));
        }
        int[] whats = {-1, 0, 1, 2, 6, 7, 8, 10, Integer.MAX_VALUE, Integer.MIN_VALUE};
        for (int what : whats) {
            Check.refused(x, "foresee(5, " + what + ")", IndexOutOfBoundsException.class, () -> x.foresee(5, what));
        }
    }
}
