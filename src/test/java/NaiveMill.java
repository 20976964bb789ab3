import java.util.ArrayDeque;
import java.util.ArrayList;
import java.util.Deque;
import java.util.HashMap;
import java.util.List;
import java.util.Map;

/**
 * The document once more, written for its words and not for its costs: each cell is asked by itself whether a cutter
 * reaches it. It has the face's names, so that a call can be put to both.
 */
final class NaiveMill {
    private record Cutter(char shape, int radius, int life) { }

    private record Block(char kind, int a, int b, int c) { }

    private record Spot(int x, int y, int z) {
        boolean canBe() {
            return x >= 0 && x < 16 && y >= 0 && y < 12 && z >= 0 && z < 10;
        }
    }

    private final Map<Integer, Cutter> cutters = new HashMap<>();
    private final boolean[][][] fixtures = new boolean[16][12][6];
    private final int[][] offsets = new int[4][3];
    private final List<Block> blocks = new ArrayList<>();

    private boolean[][][] stock;
    private Map<Integer, Integer> uses;
    private int[] variables;
    private Map<Integer, Integer> rounds;
    private Spot spot;
    private int next;
    private int done;
    private int cutter;
    private int feed;
    private int offset;
    private boolean stepwise;
    private boolean spindle;
    private float time;
    private char alarm;

    NaiveMill() {
        begin();
    }

    private void begin() {
        stock = new boolean[16][12][6];
        for (boolean[][] plane : stock) {
            for (boolean[] column : plane) {
                java.util.Arrays.fill(column, true);
            }
        }
        uses = new HashMap<>();
        variables = new int[8];
        rounds = new HashMap<>();
        spot = new Spot(0, 0, 9);
        next = 0;
        done = 0;
        cutter = -1;
        feed = 10;
        offset = 0;
        stepwise = false;
        spindle = false;
        time = 0;
        alarm = '-';
    }

    private static void slot(int rack, int place) {
        if (rack < 0 || rack > 2 || place < 0 || place > 3) {
            throw new IndexOutOfBoundsException();
        }
    }

    private static void cell(int x, int y, int z) {
        if (x < 0 || x > 15 || y < 0 || y > 11 || z < 0 || z > 5) {
            throw new IndexOutOfBoundsException();
        }
    }

    int putCutter(int rack, int place, char shape, int radius, int life) {
        slot(rack, place);
        if ("ebv".indexOf(shape) < 0 || radius < 0 || radius > 3 || life < 1 || life > 999) {
            throw new IllegalArgumentException();
        }
        if (rack == 0 && shape != 'e' || rack == 1 && shape != 'b') {
            throw new UnsupportedOperationException();
        }
        cutters.put(4 * rack + place, new Cutter(shape, radius, life));
        begin();
        return (int) cutters.keySet().stream().filter(slot -> slot / 4 == rack).count();
    }

    boolean setFixture(int x, int y, int z, boolean isFixture) {
        cell(x, y, z);
        boolean was = fixtures[x][y][z];
        fixtures[x][y][z] = isFixture;
        begin();
        return was;
    }

    int setOffset(int number, int x, int y, int z) {
        if (number < 0 || number > 3 || Math.abs((long) x) > 15 || Math.abs((long) y) > 15 || Math.abs((long) z) > 15) {
            throw new IllegalArgumentException();
        }
        int before = offsets[number][0];
        offsets[number] = new int[] {x, y, z};
        begin();
        return before;
    }

    int addBlock(char kind, int a, int b, int c) {
        if ("gldptsfmovxrieq".indexOf(kind) < 0) {
            throw new IllegalArgumentException();
        }
        for (int term : new int[] {a, b, c}) {
            if (!(term >= -50 && term <= 50) && !(term >= 100 && term <= 107)) {
                throw new IllegalArgumentException();
            }
        }
        if (blocks.size() == 64) {
            throw new IllegalStateException();
        }
        blocks.add(new Block(kind, a, b, c));
        begin();
        return blocks.size() - 1;
    }

    int dropBlock() {
        if (blocks.isEmpty()) {
            throw new IllegalStateException();
        }
        blocks.remove(blocks.size() - 1);
        begin();
        return blocks.size();
    }

    /** The blocks that close and open each other, or null if the program is not closed. */
    private Map<Integer, Integer> parts() {
        Map<Integer, Integer> parts = new HashMap<>();
        Deque<Integer> open = new ArrayDeque<>();
        for (int i = 0; i < blocks.size(); i++) {
            char kind = blocks.get(i).kind;
            if (kind == 'r' || kind == 'i') {
                open.push(i);
                if (open.size() > 3) {
                    return null;
                }
            } else if (kind == 'e') {
                if (open.isEmpty()) {
                    return null;
                }
                int opening = open.pop();
                parts.put(opening, i);
                parts.put(i, opening);
            }
        }
        return open.isEmpty() ? parts : null;
    }

    boolean isClosed() {
        return parts() != null;
    }

    int run(int most) {
        if (most < 1 || most > 100) {
            throw new IllegalArgumentException();
        }
        Map<Integer, Integer> parts = parts();
        if (parts == null) {
            throw new IllegalStateException();
        }
        int carried = 0;
        alarm = '-';
        while (carried < most && next < blocks.size()) {
            char kind = blocks.get(next).kind;
            alarm = carryOut(parts);
            if (alarm != '-') {
                break;
            }
            carried++;
            if (kind == 'q') {
                break;
            }
        }
        return carried;
    }

    private int value(int term) {
        return term >= 100 ? variables[term - 100] : term;
    }

    private boolean reaches(Cutter tool, Spot at, int i, int j, int k) {
        if (k < at.z) {
            return false;
        }
        int q = (i - at.x) * (i - at.x) + (j - at.y) * (j - at.y);
        int h = k - at.z;
        int r = tool.radius;
        switch (tool.shape) {
            case 'e':
                return q <= r * r;
            case 'b':
                return q + (h > r ? 0 : (r - h) * (r - h)) <= r * r;
            default:
                return q <= Math.min(h, r) * Math.min(h, r);
        }
    }

    private List<int[]> reached(Spot at) {
        List<int[]> cells = new ArrayList<>();
        Cutter tool = cutters.get(cutter);
        if (tool != null && at.z < 6) {
            for (int i = Math.max(0, at.x - 4); i < Math.min(16, at.x + 5); i++) {
                for (int j = Math.max(0, at.y - 4); j < Math.min(12, at.y + 5); j++) {
                    for (int k = 0; k < 6; k++) {
                        if (reaches(tool, at, i, j, k)) {
                            cells.add(new int[] {i, j, k});
                        }
                    }
                }
            }
        }
        return cells;
    }

    private static List<Spot> steps(Spot from, Spot to) {
        List<Spot> steps = new ArrayList<>();
        int dx = to.x - from.x;
        int dy = to.y - from.y;
        int dz = to.z - from.z;
        int n = Math.max(Math.abs(dx), Math.max(Math.abs(dy), Math.abs(dz)));
        for (int k = 1; k <= n; k++) {
            steps.add(new Spot(from.x + dx * k / n, from.y + dy * k / n, from.z + dz * k / n));
        }
        return steps;
    }

    private boolean worn(int slot) {
        return uses.getOrDefault(slot, 0) >= cutters.get(slot).life;
    }

    /** The slot to take, or -1. */
    private int change(int a, int b) {
        Cutter told = cutters.get(4 * a + b);
        if (!worn(4 * a + b)) {
            return 4 * a + b;
        }
        for (int place = b + 1; place < 4; place++) {
            Cutter other = cutters.get(4 * a + place);
            if (other != null && other.shape == told.shape && other.radius == told.radius && !worn(4 * a + place)) {
                return 4 * a + place;
            }
        }
        return -1;
    }

    private boolean isTold(char kind, int a, int b, int c) {
        switch (kind) {
            case 't':
                return a >= 0 && a <= 2 && b >= 0 && b <= 3 && cutters.containsKey(4 * a + b);
            case 's':
            case 'm':
                return a == 0 || a == 1;
            case 'f':
                return a >= 1 && a <= 50;
            case 'o':
                return a >= 0 && a <= 3;
            case 'v':
            case 'x':
                return a >= 0 && a <= 7;
            case 'r':
                return a >= 0 && a <= 9;
            case 'd':
                return !(a < 0 || b < 1);
            case 'p':
                return Math.min(a, Math.min(b, c)) >= 0;
            default:
                return true;
        }
    }

    private char carryOut(Map<Integer, Integer> parts) {
        Block block = blocks.get(next);
        char kind = block.kind;
        int a = value(block.a);
        int b = value(block.b);
        int c = value(block.c);
        if (!isTold(kind, a, b, c)) {
            return 'n';
        }
        if (kind == 't' && spindle) {
            return 't';
        }
        boolean cut = "ldp".indexOf(kind) >= 0;
        if (kind == 't' && change(a, b) < 0 || cut && cutter >= 0 && worn(cutter)) {
            return 'w';
        }
        if (cutter < 0 && (cut || kind == 'x') || cut && !spindle) {
            return 's';
        }
        List<List<Spot>> moves = new ArrayList<>();
        Spot end = moves(kind, a, b, c, moves);
        for (List<Spot> move : moves) {
            for (Spot step : move) {
                if (!step.canBe()) {
                    return 'l';
                }
            }
        }
        for (List<Spot> move : moves) {
            for (Spot step : move) {
                for (int[] cell : reached(step)) {
                    if (fixtures[cell[0]][cell[1]][cell[2]] || kind == 'g' && stock[cell[0]][cell[1]][cell[2]]) {
                        return 'c';
                    }
                }
            }
        }
        if (kind == 'x' && reachesStock(spot)) {
            return 'x';
        }
        for (List<Spot> move : moves) {
            if (cut) {
                for (Spot step : move) {
                    for (int[] cell : reached(step)) {
                        if (stock[cell[0]][cell[1]][cell[2]]) {
                            stock[cell[0]][cell[1]][cell[2]] = false;
                            uses.merge(cutter, 1, Integer::sum);
                        }
                    }
                }
            }
            time += (float) move.size() * (1f / (kind == 'g' ? 100f : (float) feed));
        }
        spot = end;
        next = effect(kind, a, b, c, parts);
        done++;
        return '-';
    }

    private Spot moves(char kind, int a, int b, int c, List<List<Spot>> moves) {
        if (kind == 'g' || kind == 'l') {
            Spot plus = stepwise ? spot : new Spot(offsets[offset][0], offsets[offset][1], offsets[offset][2]);
            Spot to = new Spot(a + plus.x, b + plus.y, c + plus.z);
            moves.add(steps(spot, to));
            return to;
        }
        if (kind == 'd') {
            for (int length = b; length < a; length += b) {
                moves.add(steps(spot, new Spot(spot.x, spot.y, spot.z - length)));
            }
            moves.add(steps(spot, new Spot(spot.x, spot.y, spot.z - a)));
            return spot;
        }
        if (kind == 'p') {
            List<Spot> corners = new ArrayList<>();
            corners.add(spot);
            corners.add(new Spot(spot.x, spot.y, spot.z - c));
            corners.add(new Spot(spot.x + a, spot.y, spot.z - c));
            for (int i = 1; i <= b; i++) {
                int along = i % 2 == 1 ? -a : a;
                Spot last = corners.get(corners.size() - 1);
                corners.add(new Spot(last.x, last.y + 1, last.z));
                corners.add(new Spot(last.x + along, last.y + 1, last.z));
            }
            for (int i = 1; i < corners.size(); i++) {
                moves.add(steps(corners.get(i - 1), corners.get(i)));
            }
            Spot last = corners.get(corners.size() - 1);
            return new Spot(last.x, last.y, last.z + c);
        }
        return spot;
    }

    private boolean reachesStock(Spot at) {
        for (int[] cell : reached(at)) {
            if (stock[cell[0]][cell[1]][cell[2]]) {
                return true;
            }
        }
        return false;
    }

    private int effect(char kind, int a, int b, int c, Map<Integer, Integer> parts) {
        switch (kind) {
            case 't':
                cutter = change(a, b);
                break;
            case 's':
                spindle = a == 1;
                break;
            case 'f':
                feed = a;
                break;
            case 'm':
                stepwise = a == 1;
                break;
            case 'o':
                offset = a;
                break;
            case 'v':
                variables[a] = Math.max(-50, Math.min(50, b + c));
                break;
            case 'x':
                int z = spot.z;
                while (z > 0 && !reachesStock(new Spot(spot.x, spot.y, z - 1))) {
                    z--;
                }
                variables[a] = z;
                break;
            case 'r':
                rounds.put(next, a);
                return a == 0 ? parts.get(next) + 1 : next + 1;
            case 'i':
                return a > b ? next + 1 : parts.get(next) + 1;
            case 'e':
                int opening = parts.get(next);
                if (blocks.get(opening).kind == 'r' && rounds.merge(opening, -1, Integer::sum) > 0) {
                    return opening + 1;
                }
                break;
            default:
                break;
        }
        return next + 1;
    }

    int reset() {
        int before = done;
        begin();
        return before;
    }

    char alarm() {
        return alarm;
    }

    boolean isOver() {
        return next >= blocks.size();
    }

    int next() {
        return next;
    }

    int done() {
        return done;
    }

    int variable(int number) {
        if (number < 0 || number > 7) {
            throw new IllegalArgumentException();
        }
        return variables[number];
    }

    int at(int axis) {
        switch (axis) {
            case 0:
                return spot.x;
            case 1:
                return spot.y;
            case 2:
                return spot.z;
            default:
                throw new IllegalArgumentException();
        }
    }

    int cutter() {
        return cutter;
    }

    int used(int rack, int place) {
        slot(rack, place);
        if (!cutters.containsKey(4 * rack + place)) {
            throw new java.util.NoSuchElementException();
        }
        return uses.getOrDefault(4 * rack + place, 0);
    }

    boolean has(int x, int y, int z) {
        cell(x, y, z);
        return stock[x][y][z];
    }

    int stock() {
        int count = 0;
        for (int i = 0; i < 1152; i++) {
            count += stock[i % 16][i / 16 % 12][i / 192] ? 1 : 0;
        }
        return count;
    }

    int height(int x, int y) {
        cell(x, y, 0);
        int height = 0;
        for (int z = 0; z < 6; z++) {
            height = stock[x][y][z] ? z + 1 : height;
        }
        return height;
    }

    long checksum() {
        long sum = 0;
        for (long i = 0; i < 1152; i++) {
            sum += stock[(int) i % 16][(int) i / 16 % 12][(int) i / 192] ? (i + 1) * (i + 1) : 0;
        }
        return sum;
    }

    float time() {
        return time;
    }

    int timeBits() {
        return Float.floatToIntBits(time);
    }

    double meanUse() {
        if (cutters.isEmpty()) {
            throw new ArithmeticException();
        }
        int sum = uses.values().stream().mapToInt(use -> use).sum();
        return (double) sum / cutters.size();
    }

    float taken() {
        int left = stock();
        return Math.copySign((float) (1152 - left) / 1152, (float) (left - (1152 - left)));
    }
}
