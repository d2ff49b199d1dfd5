public final class P06StampEdgesTest {
    public static void main(String[] args) {
        lastPlaces();
        firstPlacesThatAreNot();
        numbersOfStampsAndTurns();
        allNineCells();
        onFullBoards();
        Check.end();
    }

    private static void lastPlaces() {
        for (int[] side : Check.sides()) {
            for (int[] at : Check.corners(side[0] - 2, side[1] - 2)) {
                SparkBoards x = Check.full(side[0], side[1], '.');
                Check.due("stamp(1, 3) in a corner", x.stamp(1, 3, at[0], at[1]), 4);
                Check.due("above", x.told(at[0] + 1, at[1], 0), 1);
                Check.due("below", x.told(at[0] + 1, at[1] + 2, 0), 1);
                Check.due("on the left", x.told(at[0], at[1] + 1, 0), 1);
                Check.due("on the right", x.told(at[0] + 2, at[1] + 1, 0), 1);
                Check.due("only these", x.count(3), 4);
            }
        }
    }

    // "Throws IndexOutOfBoundsException if ... some of the nine cells is beyond the edge", be it copper or empty
    private static void firstPlacesThatAreNot() {
        for (int[] side : Check.sides()) {
            SparkBoards x = Check.full(side[0], side[1], 'c');
            for (int[] at : Check.beyond(side[0] - 2, side[1] - 2)) {
                for (int stamp = 0; stamp < 4; stamp++) {
                    int s = stamp;
                    Check.refused(x, "stamp beyond", Check.INDEX, () -> x.stamp(s, 3 - s, at[0], at[1]));
                }
            }
        }
    }

    // "Throws IndexOutOfBoundsException if stamp or turns is not 0 to 3"
    private static void numbersOfStampsAndTurns() {
        SparkBoards x = Check.full(3, 3, 'H');
        int[] wrong = {-1, 4, -4, 5, Integer.MIN_VALUE, Integer.MAX_VALUE};
        for (int w : wrong) {
            for (int other = 0; other < 4; other++) {
                int o = other;
                Check.refused(x, "stamp(" + w + ", " + o + ", 0, 0)", Check.INDEX, () -> x.stamp(w, o, 0, 0));
                Check.refused(x, "stamp(" + o + ", " + w + ", 0, 0)", Check.INDEX, () -> x.stamp(o, w, 0, 0));
                Check.refused(x, "stamp(" + w + ", " + w + ", 9, 9)", Check.INDEX, () -> x.stamp(w, w, 9, 9));
            }
        }
        Check.due("stamp(0, 0, 0, 0)", x.stamp(0, 0, 0, 0), 9);
        Check.due("stamp(3, 3, 0, 0)", x.stamp(3, 3, 0, 0), 5);
        Check.duePicture("the last one of both", x, ".c.", ".c.", "c.c");
    }

    // "those of the stamp become copper, the others empty": and no cell beside the nine
    private static void allNineCells() {
        SparkBoards x = Check.full(5, 5, 't');
        Check.due("stamp(2, 0, 1, 1)", x.stamp(2, 0, 1, 1), 9);
        Check.duePicture("in the middle", x, "ttttt", "t.c.t", "tcc.t", "t.c.t", "ttttt");
        Check.due("stamp(2, 2, 1, 1)", x.stamp(2, 2, 1, 1), 2);
        Check.duePicture("half a turn on", x, "ttttt", "t.c.t", "t.cct", "t.c.t", "ttttt");
    }

    // "Returns how many of the nine cells are changed."
    private static void onFullBoards() {
        int[] copper = {3, 4, 4, 4};
        for (int stamp = 0; stamp < 4; stamp++) {
            for (int turns = 0; turns < 4; turns++) {
                String call = "stamp(" + stamp + ", " + turns + ")";
                Check.due(call + " on empty", Check.full(3, 3, '.').stamp(stamp, turns, 0, 0), copper[stamp]);
                Check.due(call + " on copper", Check.full(3, 3, 'c').stamp(stamp, turns, 0, 0), 9 - copper[stamp]);
                Check.due(call + " on heads", Check.full(3, 3, 'H').stamp(stamp, turns, 0, 0), 9);
                SparkBoards x = Check.full(3, 3, 't');
                Check.due(call + " on tails", x.stamp(stamp, turns, 0, 0), 9);
                Check.due(call + " again", x.stamp(stamp, turns, 0, 0), 0);
                Check.due("copper", x.count(3), copper[stamp]);
                Check.due("tails", x.count(5), 0);
            }
        }
    }
}
