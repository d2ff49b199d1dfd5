public final class P09PassTest {
    public static void main(String[] args) {
        runs();
        meets();
        lightsLamps();
        refuses();
        Check.end();
    }

    private static void runs() {
        SparkBoards x = Check.drawn("tHccc", ".....", ".....");
        Check.due("pass(1)", x.pass(1), 1);
        Check.duePicture("a step", x, "ctHcc", ".....", ".....");
        Check.due("pass(2)", x.pass(2), 1);
        Check.duePicture("at the end", x, "ccctH", ".....", ".....");
        Check.due("pass(1)", x.pass(1), 0);
        Check.duePicture("died out", x, "cccct", ".....", ".....");
        Check.due("pass(100)", x.pass(100), 0);
        Check.due("count(0)", x.count(0), 104);
    }

    private static void meets() {
        // Beside 1 or 2 heads copper becomes a head; beside none or 3 it stays, and empty stays empty.
        SparkBoards x = Check.drawn("H.H", ".c.", "...");
        Check.due("2 heads", x.pass(1), 1);
        Check.duePicture("2 heads", x, "t.t", ".H.", "...");
        x = Check.drawn("H.H", ".c.", "..H");
        Check.due("3 heads", x.pass(1), 0);
        Check.duePicture("3 heads", x, "t.t", ".c.", "..t");
        x = Check.drawn("H..c", "....", "c...");
        Check.due("no head beside", x.pass(1), 0);
        x = Check.drawn("...", ".H.", "...");
        x.pass(1);
        Check.duePicture("empty stays", x, "...", ".t.", "...");
        x.pass(1);
        Check.duePicture("a tail becomes copper", x, "...", ".c.", "...");
        x = Check.drawn("ccc", "cHc", "ccc");
        Check.due("to all sides", x.pass(1), 8);
        Check.due("over the edge is nothing", x.pass(1), 0);
        x = Check.drawn("c..H", "....", "c..H");
        Check.due("no neighbours round the edge", x.pass(1), 0);
    }

    private static void lightsLamps() {
        SparkBoards x = Check.drawn(".cc.", "t..c", ".Hc.");
        x.lamp(3, 1);
        x.lamp(0, 0);
        Check.due("pass(2)", x.pass(2), 1);
        Check.due("lit once", x.about(0, 2), 1);
        Check.due("behind the step 2", x.about(0, 3), 2);
        Check.due("never lit", x.about(1, 2) + x.about(1, 3), 0);
        Check.due("pass(6)", x.pass(6), 1);
        Check.due("lit twice", x.about(0, 2), 2);
        Check.due("behind the step 8", x.about(0, 3), 8);
        Check.dueDouble("mean()", x.mean(), 1.0);
    }

    private static void refuses() {
        SparkBoards x = Check.drawn("tHccc", ".....", ".....");
        x.lamp(2, 0);
        int[] steps = {0, -1, 101, Integer.MAX_VALUE, Integer.MIN_VALUE};
        for (int s : steps) {
            Check.refused(x, "pass(" + s + ")", IllegalArgumentException.class, () -> x.pass(s));
        }
    }
}
