public final class P07SparkEdgesTest {
    private static final int[] RIGHT = {1, 1, 0, -1, -1, -1, 0, 1};
    private static final int[] DOWN = {0, 1, 1, 1, 0, -1, -1, -1};

    public static void main(String[] args) {
        numbersOfDirections();
        firstCellsThatAreNot();
        neighbourBeyondTheEdge();
        onlyCopper();
        onFullBoards();
        lightsNoLamp();
        Check.end();
    }

    // "direction is not 0 to 7"
    private static void numbersOfDirections() {
        SparkBoards x = Check.full(3, 3, 'c');
        SparkBoards empty = new SparkBoards();
        int[] wrong = {-1, 8, -8, 9, Integer.MIN_VALUE, Integer.MAX_VALUE};
        for (int direction : wrong) {
            String call = "spark(1, 1, " + direction + ")";
            Check.refused(x, call, Check.INDEX, () -> x.spark(1, 1, direction));
            Check.refused(empty, call + " without copper", Check.INDEX, () -> empty.spark(1, 1, direction));
        }
        Check.due("spark(1, 1, 0)", x.spark(1, 1, 0), 1);
        x.set(1, 1, 1);
        Check.due("spark(2, 0, 7)", x.spark(2, 0, 7), 1);
        Check.duePicture("the last direction", x, "ccH", "ttc", "ccc");
    }

    // "Throws IndexOutOfBoundsException if there is no such cell", ahead of the lack of copper
    private static void firstCellsThatAreNot() {
        for (int[] side : Check.sides()) {
            SparkBoards x = Check.full(side[0], side[1], 'c');
            for (int[] cell : Check.beyond(side[0], side[1])) {
                for (int direction = 0; direction < 8; direction++) {
                    int d = direction;
                    Check.refused(x, "spark beyond", Check.INDEX, () -> x.spark(cell[0], cell[1], d));
                }
            }
        }
    }

    // The neighbour behind lies beyond the edge, where it is empty: "IllegalStateException if the cell or the
    // neighbour behind it is not copper".
    private static void neighbourBeyondTheEdge() {
        for (int[] side : Check.sides()) {
            for (int number = 0; number < side[0] * side[1]; number++) {
                for (int direction = 0; direction < 8; direction++) {
                    int column = number % side[0];
                    int row = number / side[0];
                    int d = direction;
                    int behindX = column - RIGHT[d];
                    int behindY = row - DOWN[d];
                    SparkBoards x = Check.full(side[0], side[1], 'c');
                    if (behindX >= 0 && behindX < side[0] && behindY >= 0 && behindY < side[1]) {
                        Check.due("spark", x.spark(column, row, d), 1);
                        Check.due("its head", x.told(column, row, 0), 2);
                        Check.due("its tail", x.told(behindX, behindY, 0), 3);
                        Check.due("copper", x.count(3), side[0] * side[1] - 2);
                    } else {
                        Check.refused(x, "spark at the edge", Check.STATE, () -> x.spark(column, row, d));
                    }
                }
            }
        }
    }

    // Each kind for the cell, and each for the one behind it: both have to be copper.
    private static void onlyCopper() {
        for (int head = 0; head <= 3; head++) {
            for (int tail = 0; tail <= 3; tail++) {
                SparkBoards x = Check.full(3, 3, 'c');
                x.set(2, 2, head);
                x.set(1, 1, tail);
                if (head == 1 && tail == 1) {
                    Check.due("spark(2, 2, 1)", x.spark(2, 2, 1), 1);
                    Check.duePicture("both are copper", x, "ccc", "ctc", "ccH");
                } else {
                    Check.refused(x, "spark of " + head + ", " + tail, Check.STATE, () -> x.spark(2, 2, 1));
                }
            }
        }
    }

    // "Returns how many heads there are then."
    private static void onFullBoards() {
        SparkBoards x = Check.full(10, 10, 'c');
        for (int row = 0; row < 10; row++) {
            for (int column = 1; column < 10; column += 2) {
                Check.due("heads", x.spark(column, row, 0), row * 5 + (column + 1) / 2);
            }
        }
        Check.due("no copper is left", x.count(3), 0);
        Check.due("tails", x.count(5), 50);
        Check.refused(x, "a spark without copper", Check.STATE, () -> x.spark(9, 9, 0));
        SparkBoards heads = Check.full(10, 10, 'H');
        heads.line(0, 0, 1, 0);
        Check.refused(heads, "a spark among heads alone", Check.STATE, () -> heads.spark(1, 0, 0));
        heads.set(0, 0, 1);
        Check.refused(heads, "a spark on a head", Check.STATE, () -> heads.spark(1, 0, 0));
        heads.set(1, 0, 1);
        Check.due("a spark among heads", heads.spark(1, 0, 0), 99);
    }

    private static void lightsNoLamp() {
        SparkBoards x = Check.full(3, 3, 'c');
        x.lamp(1, 1);
        x.spark(1, 1, 0);
        Check.due("times lit", x.count(9), 0);
        Check.due("steps", x.count(0), 0);
    }
}
