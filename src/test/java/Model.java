import java.util.ArrayDeque;
import java.util.ArrayList;
import java.util.Arrays;
import java.util.HashMap;
import java.util.List;
import java.util.Map;

/** The document once more, by other means than the program's: texts, maps and lists, without a thought of speed. */
final class Model {
    private static final String KINDS = ".cHt";
    private static final String[] STAMPS = {"011121", "01101221", "01101112", "00021121"};

    // A board is a text: its rows, each with a line's end behind it.
    private String board = empty(8, 6);
    private List<int[]> lamps = new ArrayList<>();
    private int steps = 0;
    private long heads = 0;

    private static String empty(int w, int h) {
        return (".".repeat(w) + "\n").repeat(h);
    }

    private static int width(String board) {
        return board.indexOf('\n');
    }

    private static int height(String board) {
        return board.length() / (width(board) + 1);
    }

    private static boolean has(String board, int x, int y) {
        return 0 <= x && x < width(board) && 0 <= y && y < height(board);
    }

    private static int place(String board, int x, int y) {
        return (width(board) + 1) * y + x;
    }

    private static char at(String board, int x, int y) {
        return has(board, x, y) ? board.charAt(place(board, x, y)) : '.';
    }

    private static String with(String board, int x, int y, char kind) {
        int place = place(board, x, y);
        return board.substring(0, place) + kind + board.substring(place + 1);
    }

    private static int many(String board, char kind) {
        return (int) board.chars().filter(c -> c == kind).count();
    }

    private static int around(String board, int x, int y, String kinds) {
        int many = 0;
        for (int row = y - 1; row <= y + 1; row++) {
            for (int column = x - 1; column <= x + 1; column++) {
                if ((row != y || column != x) && kinds.indexOf(at(board, column, row)) >= 0) {
                    many++;
                }
            }
        }
        return many;
    }

    private static char later(String board, int x, int y) {
        char kind = at(board, x, y);
        int beside = around(board, x, y, "H");
        return kind == 'H' ? 't' : kind == 't' ? 'c' : kind == 'c' && beside > 0 && beside < 3 ? 'H' : kind;
    }

    private static String step(String board) {
        StringBuilder next = new StringBuilder();
        for (int y = 0; y < height(board); y++) {
            for (int x = 0; x < width(board); x++) {
                next.append(later(board, x, y));
            }
            next.append('\n');
        }
        return next.toString();
    }

    private static String step(String board, int steps) {
        return steps == 0 ? board : step(step(board), steps - 1);
    }

    private static void need(boolean it, RuntimeException otherwise) {
        if (!it) {
            throw otherwise;
        }
    }

    private static void needIndex(boolean it) {
        need(it, new IndexOutOfBoundsException());
    }

    private static void needArgument(boolean it) {
        need(it, new IllegalArgumentException());
    }

    private static void needState(boolean it) {
        need(it, new IllegalStateException());
    }

    private static boolean in(int number, int least, int most) {
        return least <= number && number <= most;
    }

    int setBoard(int w, int h) {
        needArgument(in(w, 3, 10) && in(h, 3, 10));
        board = empty(w, h);
        lamps = new ArrayList<>();
        return w * h;
    }

    int set(int x, int y, int kind) {
        needIndex(has(board, x, y));
        needArgument(in(kind, 0, 3));
        int before = KINDS.indexOf(at(board, x, y));
        board = with(board, x, y, KINDS.charAt(kind));
        return before;
    }

    private int lay(List<int[]> cells) {
        int before = many(board, 'c');
        for (int[] cell : cells) {
            if (at(board, cell[0], cell[1]) == '.') {
                board = with(board, cell[0], cell[1], 'c');
            }
        }
        return many(board, 'c') - before;
    }

    int line(int x, int y, int tx, int ty) {
        needIndex(has(board, x, y) && has(board, tx, ty));
        needArgument(x == tx || y == ty || x + y == tx + ty || x - y == tx - ty);
        List<int[]> cells = new ArrayList<>();
        for (int row = Math.min(y, ty); row <= Math.max(y, ty); row++) {
            for (int column = Math.min(x, tx); column <= Math.max(x, tx); column++) {
                boolean straight = x == tx || y == ty;
                boolean falling = x - y == tx - ty && column - row == x - y;
                boolean rising = x + y == tx + ty && column + row == x + y;
                if (straight || falling || rising) {
                    cells.add(new int[] {column, row});
                }
            }
        }
        return lay(cells);
    }

    int ring(int x, int y, int w, int h) {
        needArgument(w >= 3 && h >= 3);
        needIndex(x >= 0 && y >= 0 && (long) x + w <= width(board) && (long) y + h <= height(board));
        List<int[]> cells = new ArrayList<>();
        for (int row = 0; row < h; row++) {
            for (int column = 0; column < w; column++) {
                boolean side = column == 0 || column == w - 1;
                boolean cap = row == 0 || row == h - 1;
                if (side != cap) {
                    cells.add(new int[] {x + column, y + row});
                }
            }
        }
        return lay(cells);
    }

    int stamp(int stamp, int turns, int x, int y) {
        needIndex(in(stamp, 0, 3) && in(turns, 0, 3));
        needIndex(has(board, x, y) && has(board, x + 2, y + 2));
        boolean[][] copper = new boolean[3][3];
        for (int i = 0; i < STAMPS[stamp].length(); i += 2) {
            int[] cell = {STAMPS[stamp].charAt(i) - '0', STAMPS[stamp].charAt(i + 1) - '0'};
            for (int t = 0; t < turns; t++) {
                cell = new int[] {2 - cell[1], cell[0]};
            }
            copper[cell[0]][cell[1]] = true;
        }
        int changed = 0;
        for (int i = 0; i < 9; i++) {
            char due = copper[i % 3][i / 3] ? 'c' : '.';
            changed += at(board, x + i % 3, y + i / 3) == due ? 0 : 1;
            board = with(board, x + i % 3, y + i / 3, due);
        }
        return changed;
    }

    int spark(int x, int y, int direction) {
        needIndex(has(board, x, y) && in(direction, 0, 7));
        // The directions go round as the clock's hand, 45 degrees each.
        double angle = Math.PI / 4 * direction;
        int behindX = x - (int) Math.round(Math.cos(angle));
        int behindY = y - (int) Math.round(Math.sin(angle));
        needState(at(board, x, y) == 'c' && at(board, behindX, behindY) == 'c');
        board = with(with(board, x, y, 'H'), behindX, behindY, 't');
        return many(board, 'H');
    }

    int lamp(int x, int y) {
        needIndex(has(board, x, y));
        needState(lamps.size() < 5);
        lamps.add(new int[] {x, y, 0, 0});
        return lamps.size() - 1;
    }

    int pass(int steps) {
        needArgument(in(steps, 1, 100));
        for (int i = 0; i < steps; i++) {
            board = step(board);
            this.steps++;
            heads += many(board, 'H');
            for (int[] lamp : lamps) {
                if (at(board, lamp[0], lamp[1]) == 'H') {
                    lamp[2]++;
                    lamp[3] = this.steps;
                }
            }
        }
        return many(board, 'H');
    }

    int told(int x, int y, int what) {
        needIndex(has(board, x, y) && in(what, 0, 4));
        int[] all = {KINDS.indexOf(at(board, x, y)), around(board, x, y, "H"), KINDS.indexOf(later(board, x, y)),
            ways(x, y).size(), around(board, x, y, "cHt")};
        return all[what];
    }

    int about(int lamp, int what) {
        needIndex(in(lamp, 0, lamps.size() - 1) && in(what, 0, 3));
        return lamps.get(lamp)[what];
    }

    int count(int what) {
        needIndex(in(what, 0, 9));
        int lit = lamps.stream().mapToInt(lamp -> lamp[2]).sum();
        int[] sizes = sizesOfPieces();
        int[] all = {steps, width(board), height(board), many(board, 'c'), many(board, 'H'), many(board, 't'),
            sizes.length, Arrays.stream(sizes).max().orElse(0), lamps.size(), lit};
        return all[what];
    }

    // The ways to all cells of the piece at (x, y), by their places in the board's text.
    private Map<Integer, Integer> ways(int x, int y) {
        Map<Integer, Integer> ways = new HashMap<>();
        ArrayDeque<int[]> open = new ArrayDeque<>();
        if (at(board, x, y) != '.') {
            ways.put(place(board, x, y), 0);
            open.add(new int[] {x, y});
        }
        while (!open.isEmpty()) {
            int[] from = open.remove();
            int next = ways.get(place(board, from[0], from[1])) + 1;
            for (int i = 0; i < 9; i++) {
                int column = from[0] - 1 + i % 3;
                int row = from[1] - 1 + i / 3;
                if (at(board, column, row) != '.' && ways.putIfAbsent(place(board, column, row), next) == null) {
                    open.add(new int[] {column, row});
                }
            }
        }
        return ways;
    }

    // The cells of a piece take over the least number among their neighbours', until all have the same.
    private int[] sizesOfPieces() {
        int[] piece = new int[board.length()];
        Arrays.setAll(piece, i -> i);
        boolean changed = true;
        while (changed) {
            changed = false;
            for (int one = 0; one < piece.length; one++) {
                for (int other = 0; other < piece.length; other++) {
                    if (areJoined(one, other) && piece[other] < piece[one]) {
                        piece[one] = piece[other];
                        changed = true;
                    }
                }
            }
        }
        int[] sizes = new int[piece.length];
        for (int i = 0; i < piece.length; i++) {
            sizes[piece[i]] += ".\n".indexOf(board.charAt(i)) < 0 ? 1 : 0;
        }
        return Arrays.stream(sizes).filter(size -> size > 0).toArray();
    }

    private boolean areJoined(int one, int other) {
        int line = width(board) + 1;
        return ".\n".indexOf(board.charAt(one)) < 0 && ".\n".indexOf(board.charAt(other)) < 0
            && Math.abs(one % line - other % line) <= 1 && Math.abs(one / line - other / line) <= 1;
    }

    int way(int x, int y, int tx, int ty) {
        needIndex(has(board, x, y) && has(board, tx, ty));
        return ways(x, y).getOrDefault(place(board, tx, ty), -1);
    }

    int period(int what) {
        needIndex(in(what, 0, 1));
        String[] behind = new String[91];
        behind[0] = board;
        for (int i = 1; i <= 90; i++) {
            behind[i] = step(behind[i - 1]);
        }
        for (int first = 0; first <= 90; first++) {
            for (int more = 1; first + more <= 90; more++) {
                if (behind[first].equals(behind[first + more])) {
                    return what == 0 ? first : more;
                }
            }
        }
        return -1;
    }

    int until(int x, int y) {
        needIndex(has(board, x, y));
        String then = board;
        int steps = 0;
        while (at(then, x, y) != 'H' && steps <= 150) {
            then = step(then);
            steps++;
        }
        return steps <= 150 ? steps : -1;
    }

    int foresee(int steps, int what) {
        needArgument(in(steps, 1, 100));
        needIndex(in(what, 3, 5) || what == 9);
        Model then = new Model();
        then.board = board;
        for (int[] lamp : lamps) {
            then.lamps.add(lamp.clone());
        }
        then.pass(steps);
        return then.count(what);
    }

    int advise(int steps) {
        needArgument(in(steps, 1, 4));
        int cell = -1;
        int fewest = many(step(board, steps), 'H');
        for (int i = width(board) * height(board) - 1; i >= 0; i--) {
            int x = i % width(board);
            int y = i / width(board);
            if (at(board, x, y) == 'c') {
                int heads = many(step(with(board, x, y, '.'), steps), 'H');
                if (heads < fewest || heads == fewest && cell >= 0) {
                    fewest = heads;
                    cell = i;
                }
            }
        }
        return cell;
    }

    double mean() {
        return steps == 0 ? 0 : (double) heads / steps;
    }

    long digest() {
        List<Long> all = new ArrayList<>();
        for (int what = 0; what < 10; what++) {
            all.add((long) count(what));
        }
        for (int y = 0; y < height(board); y++) {
            for (int x = 0; x < width(board); x++) {
                for (int what = 0; what < 5; what++) {
                    all.add((long) told(x, y, what));
                }
            }
        }
        for (int[] lamp : lamps) {
            for (int number : lamp) {
                all.add((long) number);
            }
        }
        all.add(heads);
        return all.stream().reduce(1723L, (d, x) -> d * 31 + x);
    }
}
