import java.util.Arrays;

/** Wires on a toy board: sparks run along copper, lamps count them. */
public final class SparkBoards {
    private static final int EMPTY = 0;
    private static final int COPPER = 1;
    private static final int HEAD = 2;
    private static final int TAIL = 3;

    private static final int LEAST_SIDE = 3;
    private static final int MOST_SIDE = 10;
    private static final int MOST_CELLS = MOST_SIDE * MOST_SIDE;
    private static final int NO_CELL = -1;
    private static final int FIRST_COLUMNS = 8;
    private static final int FIRST_ROWS = 6;
    private static final int MOST_LAMPS = 5;

    private static final int MOST_PASSED = 100;
    private static final int MOST_PERIOD = 90;
    private static final int MOST_UNTIL = 150;
    private static final int MOST_ADVISED = 4;

    private static final int TOLD = 5;
    private static final int ABOUT = 4;
    private static final int COUNTS = 10;
    private static final int COUNT_COPPER = 3;
    private static final int COUNT_TAILS = 5;
    private static final int COUNT_LIT = 9;

    private static final int DIRECTIONS = 8;
    private static final int[] RIGHT = {1, 1, 0, -1, -1, -1, 0, 1};
    private static final int[] DOWN = {0, 1, 1, 1, 0, -1, -1, -1};

    private static final int LEAST_RING = 3;

    private static final int STAMPS = 4;
    private static final int TURNS = 4;
    private static final int STAMP_SIDE = 3;
    private static final int STAMP_CELLS = STAMP_SIDE * STAMP_SIDE;
    private static final int[] STAMPED = {
        0, 0, 0,
        1, 1, 1,
        0, 0, 0,

        0, 1, 0,
        1, 0, 1,
        0, 1, 0,

        0, 1, 0,
        1, 1, 0,
        0, 1, 0,

        1, 0, 0,
        0, 1, 1,
        1, 0, 0,
    };

    private static final long DIGEST_START = 1723L;
    private static final long DIGEST_FACTOR = 31L;

    private final Board board;
    // What would be is tried here, so that the board itself stays as it is.
    private final Board trial;
    private final Wires wires;
    private final Lamps lamps;
    private final Past past;
    private int stepsGone;
    private long headsOfAllSteps;

    public SparkBoards() {
        board = new Board(FIRST_COLUMNS, FIRST_ROWS);
        trial = new Board(FIRST_COLUMNS, FIRST_ROWS);
        wires = new Wires();
        lamps = new Lamps();
        past = new Past();
        stepsGone = 0;
        headsOfAllSteps = 0L;
    }

    // ---- the board

    public int setBoard(int w, int h) throws IllegalArgumentException {
        if (!isSide(w) || !isSide(h)) {
            throw new IllegalArgumentException("a board has 3 to 10 columns and rows");
        }
        board.clear(w, h);
        lamps.clear();
        return board.size();
    }

    public int set(int x, int y, int kind) throws IndexOutOfBoundsException, IllegalArgumentException {
        int cell = board.cell(x, y);
        if (cell == NO_CELL) {
            throw new IndexOutOfBoundsException("no such cell");
        }
        if (kind < EMPTY || kind > TAIL) {
            throw new IllegalArgumentException("a kind is 0 to 3");
        }
        int before = board.kind(cell);
        board.put(cell, kind);
        return before;
    }

    public int line(int x, int y, int tx, int ty) throws IndexOutOfBoundsException, IllegalArgumentException {
        if (board.cell(x, y) == NO_CELL || board.cell(tx, ty) == NO_CELL) {
            throw new IndexOutOfBoundsException("no such cell");
        }
        int across = Math.abs(tx - x);
        int down = Math.abs(ty - y);
        if (across != 0 && down != 0 && across != down) {
            throw new IllegalArgumentException("not in one row, column or diagonal");
        }
        int right = Integer.compare(tx, x);
        int below = Integer.compare(ty, y);
        int length = Math.max(across, down);
        int laid = 0;
        for (int i = 0; i <= length; i++) {
            laid += lay(x + i * right, y + i * below);
        }
        return laid;
    }

    public int ring(int x, int y, int w, int h) throws IllegalArgumentException, IndexOutOfBoundsException {
        if (w < LEAST_RING || h < LEAST_RING) {
            throw new IllegalArgumentException("a ring has 3 columns and rows at least");
        }
        if (!board.holds(x, y, w, h)) {
            throw new IndexOutOfBoundsException("the ring goes beyond the edge");
        }
        int laid = 0;
        for (int i = 1; i < w - 1; i++) {
            laid += lay(x + i, y) + lay(x + i, y + h - 1);
        }
        for (int i = 1; i < h - 1; i++) {
            laid += lay(x, y + i) + lay(x + w - 1, y + i);
        }
        return laid;
    }

    public int stamp(int stamp, int turns, int x, int y) throws IndexOutOfBoundsException {
        if (stamp < 0 || stamp >= STAMPS || turns < 0 || turns >= TURNS) {
            throw new IndexOutOfBoundsException("a stamp and its turns are 0 to 3");
        }
        if (!board.holds(x, y, STAMP_SIDE, STAMP_SIDE)) {
            throw new IndexOutOfBoundsException("the stamp goes beyond the edge");
        }
        int changed = 0;
        for (int i = 0; i < STAMP_CELLS; i++) {
            int turned = turned(i, turns);
            int cell = board.cell(x + turned % STAMP_SIDE, y + turned / STAMP_SIDE);
            int kind = STAMPED[stamp * STAMP_CELLS + i];
            if (board.kind(cell) != kind) {
                board.put(cell, kind);
                changed++;
            }
        }
        return changed;
    }

    public int spark(int x, int y, int direction) throws IndexOutOfBoundsException, IllegalStateException {
        int head = board.cell(x, y);
        if (head == NO_CELL || direction < 0 || direction >= DIRECTIONS) {
            throw new IndexOutOfBoundsException("no such cell or direction");
        }
        int tail = board.cell(x - RIGHT[direction], y - DOWN[direction]);
        if (board.kind(head) != COPPER || board.kind(tail) != COPPER) {
            throw new IllegalStateException("a spark needs copper for its head and its tail");
        }
        board.put(head, HEAD);
        board.put(tail, TAIL);
        return board.many(HEAD);
    }

    public int lamp(int x, int y) throws IndexOutOfBoundsException, IllegalStateException {
        if (board.cell(x, y) == NO_CELL) {
            throw new IndexOutOfBoundsException("no such cell");
        }
        if (lamps.many() >= MOST_LAMPS) {
            throw new IllegalStateException("there are 5 lamps");
        }
        return lamps.add(x, y);
    }

    // ---- steps

    public int pass(int steps) throws IllegalArgumentException {
        if (steps < 1 || steps > MOST_PASSED) {
            throw new IllegalArgumentException("1 to 100 steps go by");
        }
        int heads = 0;
        for (int i = 0; i < steps; i++) {
            board.step();
            stepsGone++;
            lamps.light(board, stepsGone);
            heads = board.many(HEAD);
            headsOfAllSteps += heads;
        }
        return heads;
    }

    // ---- what there is

    public int told(int x, int y, int what) throws IndexOutOfBoundsException {
        int cell = board.cell(x, y);
        if (cell == NO_CELL || what < 0 || what >= TOLD) {
            throw new IndexOutOfBoundsException("no such cell, or nothing such is told");
        }
        switch (what) {
            case 0:
                return board.kind(cell);
            case 1:
                return board.headsAround(x, y);
            case 2:
                return Board.next(board.kind(cell), board.headsAround(x, y));
            case 3:
                return wires.sizeOfPiece(board, x, y);
            default:
                return board.wiredAround(x, y);
        }
    }

    public int about(int lamp, int what) throws IndexOutOfBoundsException {
        if (lamp < 0 || lamp >= lamps.many() || what < 0 || what >= ABOUT) {
            throw new IndexOutOfBoundsException("no such lamp, or nothing such is told about it");
        }
        switch (what) {
            case 0:
                return lamps.column(lamp);
            case 1:
                return lamps.row(lamp);
            case 2:
                return lamps.lit(lamp);
            default:
                return lamps.latest(lamp);
        }
    }

    public int count(int what) throws IndexOutOfBoundsException {
        if (what < 0 || what >= COUNTS) {
            throw new IndexOutOfBoundsException("nothing such is counted");
        }
        switch (what) {
            case 0:
                return stepsGone;
            case 1:
                return board.columns();
            case 2:
                return board.rows();
            case 3:
                return board.many(COPPER);
            case 4:
                return board.many(HEAD);
            case 5:
                return board.many(TAIL);
            case 6:
                return wires.pieces(board);
            case 7:
                return wires.sizeOfLongest(board);
            case 8:
                return lamps.many();
            default:
                return lamps.litInAll();
        }
    }

    public int way(int x, int y, int tx, int ty) throws IndexOutOfBoundsException {
        int from = board.cell(x, y);
        int to = board.cell(tx, ty);
        if (from == NO_CELL || to == NO_CELL) {
            throw new IndexOutOfBoundsException("no such cell");
        }
        return wires.far(board, x, y, to);
    }

    // ---- what would be

    public int period(int what) throws IndexOutOfBoundsException {
        if (what < 0 || what > 1) {
            throw new IndexOutOfBoundsException("nothing such is told of a period");
        }
        trial.copy(board);
        past.keep(0, trial);
        for (int later = 1; later <= MOST_PERIOD; later++) {
            trial.step();
            past.keep(later, trial);
            int earlier = past.firstLike(later);
            if (earlier < later) {
                return what == 0 ? earlier : later - earlier;
            }
        }
        return -1;
    }

    public int until(int x, int y) throws IndexOutOfBoundsException {
        int cell = board.cell(x, y);
        if (cell == NO_CELL) {
            throw new IndexOutOfBoundsException("no such cell");
        }
        trial.copy(board);
        for (int i = 0; i <= MOST_UNTIL; i++) {
            if (trial.kind(cell) == HEAD) {
                return i;
            }
            trial.step();
        }
        return -1;
    }

    public int foresee(int steps, int what) throws IllegalArgumentException, IndexOutOfBoundsException {
        if (steps < 1 || steps > MOST_PASSED) {
            throw new IllegalArgumentException("1 to 100 steps are foreseen");
        }
        boolean ofCells = what >= COUNT_COPPER && what <= COUNT_TAILS;
        if (!ofCells && what != COUNT_LIT) {
            throw new IndexOutOfBoundsException("nothing such is foreseen");
        }
        int lit = lamps.litInAll();
        trial.copy(board);
        for (int i = 0; i < steps; i++) {
            trial.step();
            lit += lamps.alight(trial);
        }
        return ofCells ? trial.many(COPPER + what - COUNT_COPPER) : lit;
    }

    public int advise(int steps) throws IllegalArgumentException {
        if (steps < 1 || steps > MOST_ADVISED) {
            throw new IllegalArgumentException("advice looks 1 to 4 steps ahead");
        }
        int best = -1;
        trial.copy(board);
        int fewest = headsOfTrial(steps);
        for (int cell = 0; cell < board.size(); cell++) {
            if (board.kind(cell) == COPPER) {
                trial.copy(board);
                trial.put(cell, EMPTY);
                int heads = headsOfTrial(steps);
                if (heads < fewest) {
                    fewest = heads;
                    best = cell;
                }
            }
        }
        return best;
    }

    public double mean() {
        if (stepsGone == 0) {
            return 0.0;
        }
        return (double) headsOfAllSteps / (double) stepsGone;
    }

    public long digest() {
        long d = DIGEST_START;
        for (int what = 0; what < COUNTS; what++) {
            d = d * DIGEST_FACTOR + count(what);
        }
        for (int y = 0; y < board.rows(); y++) {
            for (int x = 0; x < board.columns(); x++) {
                for (int what = 0; what < TOLD; what++) {
                    d = d * DIGEST_FACTOR + told(x, y, what);
                }
            }
        }
        for (int lamp = 0; lamp < lamps.many(); lamp++) {
            for (int what = 0; what < ABOUT; what++) {
                d = d * DIGEST_FACTOR + about(lamp, what);
            }
        }
        return d * DIGEST_FACTOR + headsOfAllSteps;
    }

    private static boolean isSide(int length) {
        return length >= LEAST_SIDE && length <= MOST_SIDE;
    }

    private static int turned(int stampCell, int turns) {
        int x = stampCell % STAMP_SIDE;
        int y = stampCell / STAMP_SIDE;
        for (int i = 0; i < turns; i++) {
            int turnedX = STAMP_SIDE - 1 - y;
            y = x;
            x = turnedX;
        }
        return y * STAMP_SIDE + x;
    }

    // Answers 0 or 1, so that its callers add up how many cells become copper.
    private int lay(int x, int y) {
        int cell = board.cell(x, y);
        if (cell == NO_CELL || board.kind(cell) != EMPTY) {
            return 0;
        }
        board.put(cell, COPPER);
        return 1;
    }

    private int headsOfTrial(int steps) {
        for (int i = 0; i < steps; i++) {
            trial.step();
        }
        return trial.many(HEAD);
    }

    private static final class Board {
        private int columns;
        private int rows;
        // As long as the largest board needs, so that another board makes no new rows.
        private final int[] kinds;
        private final int[] headsBeside;

        Board(int w, int h) {
            columns = w;
            rows = h;
            kinds = new int[MOST_CELLS];
            headsBeside = new int[MOST_CELLS];
        }

        void clear(int w, int h) {
            columns = w;
            rows = h;
            Arrays.fill(kinds, EMPTY);
        }

        void copy(Board other) {
            columns = other.columns;
            rows = other.rows;
            System.arraycopy(other.kinds, 0, kinds, 0, MOST_CELLS);
        }

        int columns() {
            return columns;
        }

        int rows() {
            return rows;
        }

        int size() {
            return columns * rows;
        }

        int cell(int x, int y) {
            if (x < 0 || x >= columns || y < 0 || y >= rows) {
                return NO_CELL;
            }
            return columns * y + x;
        }

        // Compares with what is left to the edge, since x + w may be more than an int holds.
        boolean holds(int x, int y, int w, int h) {
            return cell(x, y) != NO_CELL && w <= columns - x && h <= rows - y;
        }

        // Whether rows of MOST_CELLS have a place for it: NO_CELL has none.
        static boolean hasPlace(int cell) {
            return cell >= 0 && cell < MOST_CELLS;
        }

        // NO_CELL may be asked for too: what lies beyond the edge is empty.
        int kind(int cell) {
            return hasPlace(cell) ? kinds[cell] : EMPTY;
        }

        void put(int cell, int kind) {
            if (hasPlace(cell)) {
                kinds[cell] = kind;
            }
        }

        int many(int kind) {
            int many = 0;
            for (int i = 0; i < size(); i++) {
                if (kind(i) == kind) {
                    many++;
                }
            }
            return many;
        }

        int headsAround(int x, int y) {
            int many = 0;
            for (int direction = 0; direction < DIRECTIONS; direction++) {
                if (kind(neighbour(x, y, direction)) == HEAD) {
                    many++;
                }
            }
            return many;
        }

        int wiredAround(int x, int y) {
            int many = 0;
            for (int direction = 0; direction < DIRECTIONS; direction++) {
                if (kind(neighbour(x, y, direction)) != EMPTY) {
                    many++;
                }
            }
            return many;
        }

        int neighbour(int x, int y, int direction) {
            return cell(x + RIGHT[direction], y + DOWN[direction]);
        }

        static int next(int kind, int heads) {
            switch (kind) {
                case HEAD:
                    return TAIL;
                case TAIL:
                    return COPPER;
                case COPPER:
                    return heads == 1 || heads == 2 ? HEAD : COPPER;
                default:
                    return EMPTY;
            }
        }

        void step() {
            countHeadsBeside();
            // Places behind the board's last cell are empty, and stay so.
            for (int i = 0; i < MOST_CELLS; i++) {
                kinds[i] = next(kinds[i], headsBeside[i]);
            }
        }

        // Goes from the heads to their neighbours, since most cells are no heads.
        private void countHeadsBeside() {
            Arrays.fill(headsBeside, 0);
            for (int y = 0; y < rows; y++) {
                for (int x = 0; x < columns; x++) {
                    if (kind(cell(x, y)) == HEAD) {
                        tellNeighbours(x, y);
                    }
                }
            }
        }

        private void tellNeighbours(int x, int y) {
            for (int direction = 0; direction < DIRECTIONS; direction++) {
                int cell = neighbour(x, y, direction);
                if (hasPlace(cell)) {
                    headsBeside[cell]++;
                }
            }
        }
    }

    private static final class Wires {
        private static final int NOT_REACHED = -1;

        private final int[] far;
        // The cells that are reached, by column and row, in the order in which they are.
        private final int[] reachedX;
        private final int[] reachedY;

        Wires() {
            far = new int[MOST_CELLS];
            reachedX = new int[MOST_CELLS];
            reachedY = new int[MOST_CELLS];
        }

        int sizeOfPiece(Board board, int x, int y) {
            forget();
            return reach(board, x, y);
        }

        int pieces(Board board) {
            forget();
            int many = 0;
            for (int y = 0; y < board.rows(); y++) {
                for (int x = 0; x < board.columns(); x++) {
                    if (reach(board, x, y) > 0) {
                        many++;
                    }
                }
            }
            return many;
        }

        int sizeOfLongest(Board board) {
            forget();
            int most = 0;
            for (int y = 0; y < board.rows(); y++) {
                for (int x = 0; x < board.columns(); x++) {
                    most = Math.max(most, reach(board, x, y));
                }
            }
            return most;
        }

        int far(Board board, int x, int y, int to) {
            forget();
            reach(board, x, y);
            return wayTo(to);
        }

        private int wayTo(int cell) {
            return Board.hasPlace(cell) ? far[cell] : NOT_REACHED;
        }

        private void forget() {
            Arrays.fill(far, NOT_REACHED);
        }

        // Answers how many cells are new, so that a piece counts once until all is forgotten.
        private int reach(Board board, int x, int y) {
            int many = visit(board, x, y, 0, 0);
            for (int i = 0; i < many && i < MOST_CELLS; i++) {
                int next = wayTo(board.cell(reachedX[i], reachedY[i])) + 1;
                for (int direction = 0; direction < DIRECTIONS; direction++) {
                    many = visit(board, reachedX[i] + RIGHT[direction], reachedY[i] + DOWN[direction], next, many);
                }
            }
            return many;
        }

        private int visit(Board board, int x, int y, int way, int many) {
            int cell = board.cell(x, y);
            if (!Board.hasPlace(cell) || many >= MOST_CELLS) {
                return many;
            }
            if (board.kind(cell) == EMPTY || far[cell] != NOT_REACHED) {
                return many;
            }
            far[cell] = way;
            reachedX[many] = x;
            reachedY[many] = y;
            return many + 1;
        }
    }

    private static final class Lamps {
        private int many;
        private final int[] columns;
        private final int[] rows;
        private final int[] lit;
        private final int[] latest;

        Lamps() {
            many = 0;
            columns = new int[MOST_LAMPS];
            rows = new int[MOST_LAMPS];
            lit = new int[MOST_LAMPS];
            latest = new int[MOST_LAMPS];
        }

        void clear() {
            many = 0;
        }

        int many() {
            return many;
        }

        int add(int x, int y) {
            if (many >= MOST_LAMPS) {
                return -1;
            }
            columns[many] = x;
            rows[many] = y;
            lit[many] = 0;
            latest[many] = 0;
            many++;
            return many - 1;
        }

        int column(int lamp) {
            return isLamp(lamp) ? columns[lamp] : 0;
        }

        int row(int lamp) {
            return isLamp(lamp) ? rows[lamp] : 0;
        }

        int lit(int lamp) {
            return isLamp(lamp) ? lit[lamp] : 0;
        }

        int latest(int lamp) {
            return isLamp(lamp) ? latest[lamp] : 0;
        }

        int litInAll() {
            int sum = 0;
            for (int i = 0; i < many; i++) {
                sum += lit[i];
            }
            return sum;
        }

        int alight(Board board) {
            int sum = 0;
            for (int i = 0; i < many; i++) {
                if (isAlight(board, i)) {
                    sum++;
                }
            }
            return sum;
        }

        void light(Board board, int step) {
            for (int i = 0; i < many; i++) {
                if (isAlight(board, i)) {
                    lit[i]++;
                    latest[i] = step;
                }
            }
        }

        private boolean isLamp(int lamp) {
            return lamp >= 0 && lamp < many;
        }

        private boolean isAlight(Board board, int lamp) {
            return board.kind(board.cell(columns[lamp], rows[lamp])) == HEAD;
        }
    }

    // Packs the boards, since all calls of a run share one room.
    private static final class Past {
        private static final int WORDS = 4;
        private static final int CELLS_A_WORD = MOST_CELLS / WORDS;
        private static final int BITS_A_CELL = 2;

        private final long[] words;

        Past() {
            words = new long[(MOST_PERIOD + 1) * WORDS];
        }

        void keep(int step, Board board) {
            if (step < 0 || step > MOST_PERIOD) {
                return;
            }
            for (int i = 0; i < WORDS; i++) {
                words[step * WORDS + i] = packed(board, i * CELLS_A_WORD);
            }
        }

        int firstLike(int step) {
            if (step < 0 || step > MOST_PERIOD) {
                return step;
            }
            for (int earlier = 0; earlier < step; earlier++) {
                if (isSame(earlier, step)) {
                    return earlier;
                }
            }
            return step;
        }

        private static long packed(Board board, int from) {
            long word = 0L;
            for (int i = 0; i < CELLS_A_WORD; i++) {
                word = word << BITS_A_CELL | board.kind(from + i);
            }
            return word;
        }

        private boolean isSame(int step, int other) {
            for (int i = 0; i < WORDS; i++) {
                if (words[step * WORDS + i] != words[other * WORDS + i]) {
                    return false;
                }
            }
            return true;
        }
    }
}
