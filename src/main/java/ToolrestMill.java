import java.util.NoSuchElementException;

/**
 * A milling house: cutters stand in racks, blocks make a program, a controller carries the blocks
 * out one by one, and stock is cut in cells.
 */
public final class ToolrestMill {
    private static final int WIDTH = 16;
    private static final int DEPTH = 12;
    private static final int LAYERS = 6;
    private static final int LEVELS = 10;
    private static final int CELLS = WIDTH * DEPTH * LAYERS;
    private static final int FULL_ROW = (1 << WIDTH) - 1;

    private static final int RACKS = 3;
    private static final int RACK_PLACES = 4;
    private static final int SLOTS = RACKS * RACK_PLACES;
    private static final int MOST_RADIUS = 3;
    private static final int MOST_LIFE = 999;

    private static final int MOST_BLOCKS = 64;
    private static final int MOST_OPEN = 3;
    private static final int MOST_AT_ONCE = 100;
    private static final int MOST_TERM = 50;
    private static final int FIRST_VARIABLE_TERM = 100;
    private static final int VARIABLES = 8;
    private static final int MOST_REPEATS = 9;
    private static final int MOST_FEED = 50;
    private static final int FIRST_FEED = 10;
    private static final int RAPID_FEED = 100;

    private static final int OFFSETS = 4;
    private static final int MOST_OFFSET = 15;
    private static final int AXES = 3;

    /** The block 'p' has the most moves: down, along, and two for each of its lines. */
    private static final int MOST_LEGS = 2 + 2 * MOST_TERM;

    private static final int NONE = -1;
    private static final char NO_ALARM = '-';

    private static final char[] KINDS = {
        'g', 'l', 'd', 'p', 't', 's', 'f', 'm', 'o', 'v', 'x', 'r', 'i', 'e', 'q'
    };

    /** The whole roots of 0 to 9, the squares that a cutter can reach. */
    private static final int[] ROOTS = {0, 1, 1, 1, 2, 2, 2, 2, 2, 3};

    private final House house;
    private final Controller controller;
    /** Carries blocks out from nothing, for what is asked anew. */
    private final Controller replayer;
    private char lastAlarm;

    public ToolrestMill() {
        house = new House();
        controller = new Controller(house);
        replayer = new Controller(house);
        lastAlarm = NO_ALARM;
    }

    // ---- Cutters, fixtures, offsets and blocks

    public int putCutter(int rack, int place, char shape, int radius, int life)
            throws IndexOutOfBoundsException, IllegalArgumentException, UnsupportedOperationException {
        if (!isSlot(rack, place)) {
            throw new IndexOutOfBoundsException("there is no such rack or place");
        }
        if (!isShape(shape)) {
            throw new IllegalArgumentException("there is no such shape");
        }
        if (!isWithin(radius, 0, MOST_RADIUS) || !isWithin(life, 1, MOST_LIFE)) {
            throw new IllegalArgumentException("the radius or the life is out of range");
        }
        if (!takesShape(rack, shape)) {
            throw new UnsupportedOperationException("the rack does not take this shape");
        }
        house.racks.fill(slotOf(rack, place), shape, radius, life);
        beginAnew();
        return house.racks.countFrom(slotOf(rack, 0), RACK_PLACES);
    }

    public boolean setFixture(int x, int y, int z, boolean isFixture) throws IndexOutOfBoundsException {
        requireCell(x, y, z);
        boolean was = house.fixtures.holds(x, y, z);
        house.fixtures.mark(x, y, z, isFixture);
        beginAnew();
        return was;
    }

    public int setOffset(int offset, int x, int y, int z) throws IllegalArgumentException {
        if (!isWithin(offset, 0, OFFSETS - 1) || !isOffsetNumber(x) || !isOffsetNumber(y) || !isOffsetNumber(z)) {
            throw new IllegalArgumentException("a number is out of range");
        }
        int before = house.offsets[offset * AXES];
        house.offsets[offset * AXES] = x;
        house.offsets[offset * AXES + 1] = y;
        house.offsets[offset * AXES + 2] = z;
        beginAnew();
        return before;
    }

    public int addBlock(char kind, int a, int b, int c) throws IllegalArgumentException, IllegalStateException {
        if (!isKind(kind) || !isTerm(a) || !isTerm(b) || !isTerm(c)) {
            throw new IllegalArgumentException("there is no such kind or term");
        }
        if (house.program.size >= MOST_BLOCKS) {
            throw new IllegalStateException("the program is full");
        }
        house.program.append(kind, a, b, c);
        beginAnew();
        return house.program.size - 1;
    }

    public int dropBlock() throws IllegalStateException {
        if (house.program.size == 0) {
            throw new IllegalStateException("there are no blocks");
        }
        house.program.removeLast();
        beginAnew();
        return house.program.size;
    }

    public boolean isClosed() {
        return house.program.isWhole();
    }

    // ---- Running

    public int run(int blocks) throws IllegalArgumentException, IllegalStateException {
        if (!isWithin(blocks, 1, MOST_AT_ONCE)) {
            throw new IllegalArgumentException("the number of blocks is out of range");
        }
        if (!house.program.isWhole()) {
            throw new IllegalStateException("the program is not closed");
        }
        lastAlarm = NO_ALARM;
        for (int carried = 0; carried < blocks; carried++) {
            if (controller.isBehindLast()) {
                return carried;
            }
            lastAlarm = controller.carryOutNext();
            if (lastAlarm != NO_ALARM) {
                return carried;
            }
            if (controller.isAtStop()) {
                return carried + 1;
            }
        }
        return blocks;
    }

    public int reset() {
        int before = controller.doneBlocks;
        beginAnew();
        return before;
    }

    public char alarm() {
        return lastAlarm;
    }

    public boolean isOver() {
        return controller.isBehindLast();
    }

    public int next() {
        return controller.nextBlock;
    }

    public int done() {
        return controller.doneBlocks;
    }

    public int variable(int variable) throws IllegalArgumentException {
        if (!isWithin(variable, 0, VARIABLES - 1)) {
            throw new IllegalArgumentException("there is no such variable");
        }
        return controller.variables[variable];
    }

    public int at(int axis) throws IllegalArgumentException {
        if (!isWithin(axis, 0, AXES - 1)) {
            throw new IllegalArgumentException("there is no such axis");
        }
        return controller.place[axis];
    }

    public int cutter() {
        return controller.slot;
    }

    public int used(int rack, int place) throws IndexOutOfBoundsException, NoSuchElementException {
        if (!isSlot(rack, place)) {
            throw new IndexOutOfBoundsException("there is no such rack or place");
        }
        int slot = slotOf(rack, place);
        if (!house.racks.isFilled(slot)) {
            throw new NoSuchElementException("no cutter is there");
        }
        return controller.uses[slot];
    }

    // ---- Stock

    public boolean has(int x, int y, int z) throws IndexOutOfBoundsException {
        requireCell(x, y, z);
        return controller.stockCells.holds(x, y, z);
    }

    public boolean hasAnew(int x, int y, int z) throws IndexOutOfBoundsException {
        requireCell(x, y, z);
        replayer.carryOutFromNothing(controller.doneBlocks);
        return replayer.stockCells.holds(x, y, z);
    }

    public int stock() {
        return controller.stockCells.size();
    }

    public int height(int x, int y) throws IndexOutOfBoundsException {
        requireCell(x, y, 0);
        for (int z = LAYERS - 1; z >= 0; z--) {
            if (controller.stockCells.holds(x, y, z)) {
                return z + 1;
            }
        }
        return 0;
    }

    public long checksum() {
        return controller.stockCells.sumOfSquares();
    }

    // ---- Figures

    public float time() {
        return controller.timeSoFar;
    }

    public int timeBits() {
        return bitsOf(controller.timeSoFar);
    }

    public double meanUse() throws ArithmeticException {
        int cutters = house.racks.countFrom(0, SLOTS);
        if (cutters == 0) {
            throw new ArithmeticException("there are no cutters");
        }
        return (double) controller.sumOfUses() / (double) cutters;
    }

    public float taken() {
        int left = controller.stockCells.size();
        int gone = CELLS - left;
        float share = (float) gone / (float) CELLS;
        return left - gone < 0 ? -share : share;
    }

    public boolean isSound() {
        replayer.carryOutFromNothing(controller.doneBlocks);
        return controller.stockCells.isSameAs(replayer.stockCells)
                && controller.timeSoFar == replayer.timeSoFar
                && controller.sumOfUses() == CELLS - controller.stockCells.size()
                && controller.stockCells.holdsAllOf(house.fixtures);
    }

    // ---- What the calls share

    private void beginAnew() {
        controller.begin();
        lastAlarm = NO_ALARM;
    }

    private static void requireCell(int x, int y, int z) {
        if (!isCell(x, y, z)) {
            throw new IndexOutOfBoundsException("there is no such cell");
        }
    }

    private static boolean isWithin(int number, int least, int most) {
        return number >= least && number <= most;
    }

    private static boolean isCell(int x, int y, int z) {
        return isWithin(x, 0, WIDTH - 1) && isWithin(y, 0, DEPTH - 1) && isWithin(z, 0, LAYERS - 1);
    }

    private static boolean isPlace(int x, int y, int z) {
        return isWithin(x, 0, WIDTH - 1) && isWithin(y, 0, DEPTH - 1) && isWithin(z, 0, LEVELS - 1);
    }

    private static boolean isSlot(int rack, int place) {
        return isWithin(rack, 0, RACKS - 1) && isWithin(place, 0, RACK_PLACES - 1);
    }

    private static int slotOf(int rack, int place) {
        return RACK_PLACES * rack + place;
    }

    private static boolean isShape(char shape) {
        return shape == 'e' || shape == 'b' || shape == 'v';
    }

    private static boolean takesShape(int rack, char shape) {
        if (rack == 0) {
            return shape == 'e';
        }
        return rack != 1 || shape == 'b';
    }

    private static boolean isOffsetNumber(int number) {
        return isWithin(number, -MOST_OFFSET, MOST_OFFSET);
    }

    private static boolean isKind(char kind) {
        for (int i = 0; i < KINDS.length; i++) {
            if (KINDS[i] == kind) {
                return true;
            }
        }
        return false;
    }

    private static boolean isTerm(int term) {
        return isWithin(term, -MOST_TERM, MOST_TERM)
                || isWithin(term, FIRST_VARIABLE_TERM, FIRST_VARIABLE_TERM + VARIABLES - 1);
    }

    /** By hand, because the class that tells the bits is not in the library that LANGUAGE.md leaves. */
    private static int bitsOf(float number) {
        if (number <= 0f) {
            return 0;
        }
        float fraction = number;
        int exponent = 127;
        for (int i = 0; i < 127 && fraction >= 2f; i++) {
            fraction = fraction / 2f;
            exponent++;
        }
        for (int i = 0; i < 126 && fraction < 1f; i++) {
            fraction = fraction * 2f;
            exponent--;
        }
        return (exponent << 23) + (int) ((fraction - 1f) * 8388608f);
    }

    /** What is told by calls, and stays when the run begins anew. */
    private static final class House {
        final Racks racks = new Racks();
        final Cells fixtures = new Cells();
        final int[] offsets = new int[OFFSETS * AXES];
        final Program program = new Program();
    }

    /** The cutters; a slot is 4 times the rack plus the place. */
    private static final class Racks {
        /** The shape of each cutter, or 0 where there is none. */
        final char[] shapes = new char[SLOTS];
        final int[] radii = new int[SLOTS];
        final int[] lives = new int[SLOTS];

        void fill(int slot, char shape, int radius, int life) {
            if (isWithin(slot, 0, SLOTS - 1)) {
                shapes[slot] = shape;
                radii[slot] = radius;
                lives[slot] = life;
            }
        }

        boolean isFilled(int slot) {
            return isWithin(slot, 0, SLOTS - 1) && shapes[slot] != 0;
        }

        int countFrom(int firstSlot, int slots) {
            int count = 0;
            for (int i = 0; i < slots; i++) {
                if (isFilled(firstSlot + i)) {
                    count++;
                }
            }
            return count;
        }

        boolean areAlike(int slot, int other) {
            return isWithin(slot, 0, SLOTS - 1) && isWithin(other, 0, SLOTS - 1)
                    && shapes[slot] == shapes[other] && radii[slot] == radii[other];
        }
    }

    private static final class Program {
        /** The kinds as numbers, because the language rules name switches on numbers. */
        final int[] kinds = new int[MOST_BLOCKS];
        final int[] termsA = new int[MOST_BLOCKS];
        final int[] termsB = new int[MOST_BLOCKS];
        final int[] termsC = new int[MOST_BLOCKS];
        /** For a block that opens a part the one that closes it, and the other way round, or NONE. */
        final int[] partners = new int[MOST_BLOCKS];
        int size;

        void append(char kind, int a, int b, int c) {
            if (size >= MOST_BLOCKS) {
                return;
            }
            kinds[size] = kind;
            termsA[size] = a;
            termsB[size] = b;
            termsC[size] = c;
            partners[size] = NONE;
            if (kind == 'e') {
                closeLastOpened();
            }
            size++;
        }

        private void closeLastOpened() {
            for (int i = size - 1; i >= 0; i--) {
                if (isOpening(i) && partners[i] == NONE) {
                    partners[i] = size;
                    partners[size] = i;
                    return;
                }
            }
        }

        void removeLast() {
            if (size <= 0) {
                return;
            }
            size--;
            int partner = partners[size];
            if (isBlock(partner)) {
                partners[partner] = NONE;
            }
        }

        boolean isWhole() {
            int open = 0;
            for (int i = 0; i < size; i++) {
                boolean isOpening = isOpening(i);
                if ((isOpening || kinds[i] == 'e') && partners[i] == NONE) {
                    return false;
                }
                if (isOpening) {
                    open++;
                } else if (kinds[i] == 'e') {
                    open--;
                }
                if (open > MOST_OPEN) {
                    return false;
                }
            }
            return true;
        }

        boolean isBlock(int block) {
            return isWithin(block, 0, size - 1);
        }

        int partnerOf(int block) {
            return isBlock(block) ? partners[block] : NONE;
        }

        private boolean isOpening(int block) {
            return isBlock(block) && (kinds[block] == 'r' || kinds[block] == 'i');
        }
    }

    /** A set of cells: a row of bits, one for each x, for each y and z. */
    private static final class Cells {
        final int[] rows = new int[DEPTH * LAYERS];

        void fillAll() {
            for (int i = 0; i < rows.length; i++) {
                rows[i] = FULL_ROW;
            }
        }

        boolean holds(int x, int y, int z) {
            return isCell(x, y, z) && (rows[z * DEPTH + y] & 1 << x) != 0;
        }

        void mark(int x, int y, int z, boolean isIn) {
            if (!isCell(x, y, z)) {
                return;
            }
            int row = z * DEPTH + y;
            rows[row] = isIn ? rows[row] | 1 << x : rows[row] & ~(1 << x);
        }

        int size() {
            int size = 0;
            for (int i = 0; i < rows.length; i++) {
                size += Integer.bitCount(rows[i]);
            }
            return size;
        }

        long sumOfSquares() {
            long sum = 0;
            for (int row = 0; row < rows.length; row++) {
                for (int x = 0; x < WIDTH; x++) {
                    if ((rows[row] & 1 << x) != 0) {
                        long number = x + WIDTH * row + 1;
                        sum += number * number;
                    }
                }
            }
            return sum;
        }

        boolean isSameAs(Cells other) {
            return holdsAllOf(other) && other.holdsAllOf(this);
        }

        boolean holdsAllOf(Cells other) {
            for (int i = 0; i < rows.length; i++) {
                if ((other.rows[i] & ~rows[i]) != 0) {
                    return false;
                }
            }
            return true;
        }

        boolean meets(Reach reach) {
            int lastLine = reach.lastLine();
            for (int z = reach.firstLayer(); z < LAYERS; z++) {
                int square = reach.greatestSquare(z);
                for (int y = reach.firstLine(); y <= lastLine; y++) {
                    if ((rows[z * DEPTH + y] & reach.rowBits(y, square)) != 0) {
                        return true;
                    }
                }
            }
            return false;
        }

        /** Takes away what the cutter reaches, and answers how many cells these were. */
        int takeAway(Reach reach) {
            int count = 0;
            int lastLine = reach.lastLine();
            for (int z = reach.firstLayer(); z < LAYERS; z++) {
                int square = reach.greatestSquare(z);
                for (int y = reach.firstLine(); y <= lastLine; y++) {
                    int row = z * DEPTH + y;
                    int bits = rows[row] & reach.rowBits(y, square);
                    count += Integer.bitCount(bits);
                    rows[row] -= bits;
                }
            }
            return count;
        }
    }

    /** The cells that a cutter reaches at a place. */
    private static final class Reach {
        private int shape;
        private int radius;
        private int x;
        private int y;
        private int z;

        void useCutter(char cutterShape, int cutterRadius) {
            shape = cutterShape;
            radius = cutterRadius;
        }

        void moveTo(int placeX, int placeY, int placeZ) {
            x = placeX;
            y = placeY;
            z = placeZ;
        }

        int firstLayer() {
            return z < 0 ? 0 : z;
        }

        int firstLine() {
            return y - radius < 0 ? 0 : y - radius;
        }

        int lastLine() {
            return y + radius >= DEPTH ? DEPTH - 1 : y + radius;
        }

        /** The greatest square of a distance, seen from above, that is reached in a layer. */
        int greatestSquare(int layer) {
            if (shape == 'e') {
                return radius * radius;
            }
            int lesser = layer - z < radius ? layer - z : radius;
            if (shape == 'v') {
                return lesser * lesser;
            }
            return radius * radius - (radius - lesser) * (radius - lesser);
        }

        /** The bits of the x within the square's distance, in the row of a y. */
        int rowBits(int line, int square) {
            int rest = square - (line - y) * (line - y);
            if (rest < 0 || rest >= ROOTS.length) {
                return 0;
            }
            int first = x - ROOTS[rest] < 0 ? 0 : x - ROOTS[rest];
            int last = x + ROOTS[rest] >= WIDTH ? WIDTH - 1 : x + ROOTS[rest];
            return (1 << last + 1) - (1 << first);
        }
    }

    /** The moves of one block, each from a place to another one, and the place behind the block. */
    private static final class Path {
        private final int[] froms = new int[MOST_LEGS * AXES];
        private final int[] differences = new int[MOST_LEGS * AXES];
        private final int[] end = new int[AXES];
        int legs;

        void clear() {
            legs = 0;
        }

        void addLeg(int x, int y, int z, int toX, int toY, int toZ) {
            if (legs >= MOST_LEGS) {
                return;
            }
            int first = legs * AXES;
            froms[first] = x;
            froms[first + 1] = y;
            froms[first + 2] = z;
            differences[first] = toX - x;
            differences[first + 1] = toY - y;
            differences[first + 2] = toZ - z;
            legs++;
        }

        void endAt(int x, int y, int z) {
            end[0] = x;
            end[1] = y;
            end[2] = z;
        }

        int endAlong(int axis) {
            return isWithin(axis, 0, AXES - 1) ? end[axis] : 0;
        }

        int stepsOf(int leg) {
            int most = 0;
            for (int i = 0; i < AXES; i++) {
                int index = leg * AXES + i;
                if (isWithin(index, 0, differences.length - 1)) {
                    most = Math.max(most, Math.abs(differences[index]));
                }
            }
            return most;
        }

        /** The number along an axis behind a step: what is added is rounded toward 0. */
        int behindStep(int leg, int axis, int step, int steps) {
            int index = leg * AXES + axis;
            if (steps == 0 || index < 0 || index >= froms.length) {
                return 0;
            }
            return froms[index] + differences[index] * step / steps;
        }

        /** The places behind a leg's steps lie between its ends, so its last one tells. */
        boolean leavesSpace() {
            for (int i = 0; i < legs * AXES; i += AXES) {
                if (!isPlace(froms[i] + differences[i], froms[i + 1] + differences[i + 1],
                        froms[i + 2] + differences[i + 2])) {
                    return true;
                }
            }
            return false;
        }
    }

    /** Carries out the blocks of a run. */
    private static final class Controller {
        private final House house;
        final Cells stockCells = new Cells();
        final int[] uses = new int[SLOTS];
        final int[] variables = new int[VARIABLES];
        final int[] place = new int[AXES];
        /** How often the part that a block 'r' opens is still to be carried out. */
        private final int[] timesLeft = new int[MOST_BLOCKS];
        private final Path path = new Path();
        private final Reach reach = new Reach();
        int nextBlock;
        int doneBlocks;
        /** The slot of the cutter, or NONE. */
        int slot;
        float timeSoFar;
        private int feed;
        private int offset;
        private boolean isStepwise;
        private boolean isSpindleOn;
        /** The kind and the terms of the block that is, or was last, looked at. */
        private int kind;
        private int a;
        private int b;
        private int c;

        Controller(House house) {
            this.house = house;
            begin();
        }

        void begin() {
            stockCells.fillAll();
            for (int i = 0; i < SLOTS; i++) {
                uses[i] = 0;
            }
            for (int i = 0; i < VARIABLES; i++) {
                variables[i] = 0;
            }
            place[0] = 0;
            place[1] = 0;
            place[2] = LEVELS - 1;
            nextBlock = 0;
            doneBlocks = 0;
            slot = NONE;
            timeSoFar = 0f;
            feed = FIRST_FEED;
            offset = 0;
            isStepwise = false;
            isSpindleOn = false;
            kind = 0;
        }

        boolean isBehindLast() {
            return nextBlock >= house.program.size;
        }

        /** Whether the block that was carried out last is a stop. */
        boolean isAtStop() {
            return kind == 'q';
        }

        int sumOfUses() {
            int sum = 0;
            for (int i = 0; i < SLOTS; i++) {
                sum += uses[i];
            }
            return sum;
        }

        void carryOutFromNothing(int blocks) {
            begin();
            for (int i = 0; i < blocks; i++) {
                carryOutNext();
            }
        }

        /** Answers the alarm that the next block gives; without one, the block is carried out. */
        char carryOutNext() {
            Program program = house.program;
            if (!program.isBlock(nextBlock)) {
                return NO_ALARM;
            }
            kind = program.kinds[nextBlock];
            a = valueOf(program.termsA[nextBlock]);
            b = valueOf(program.termsB[nextBlock]);
            c = valueOf(program.termsC[nextBlock]);
            char alarm = areTermsTold() ? findToolAlarm() : 'n';
            if (alarm == NO_ALARM) {
                planPath();
                aimCutter();
                alarm = findCellAlarm();
            }
            if (alarm == NO_ALARM) {
                carryOutMoves();
                takeEffect();
                doneBlocks++;
            }
            return alarm;
        }

        private int valueOf(int term) {
            int variable = term - FIRST_VARIABLE_TERM;
            return isWithin(variable, 0, VARIABLES - 1) ? variables[variable] : term;
        }

        private boolean areTermsTold() {
            switch (kind) {
                case 'd':
                    return a >= 0 && b >= 1;
                case 'p':
                    return a >= 0 && b >= 0 && c >= 0;
                case 't':
                    return isSlot(a, b) && house.racks.isFilled(slotOf(a, b));
                case 's':
                case 'm':
                    return isWithin(a, 0, 1);
                case 'f':
                    return isWithin(a, 1, MOST_FEED);
                case 'o':
                    return isWithin(a, 0, OFFSETS - 1);
                case 'v':
                case 'x':
                    return isWithin(a, 0, VARIABLES - 1);
                case 'r':
                    return isWithin(a, 0, MOST_REPEATS);
                default:
                    return true;
            }
        }

        /** The first one of the alarms 't', 'w' and 's' that applies. */
        private char findToolAlarm() {
            if (kind == 't') {
                if (isSpindleOn) {
                    return 't';
                }
                return slotToTake() == NONE ? 'w' : NO_ALARM;
            }
            if (isCut() && slot != NONE && isWorn(slot)) {
                return 'w';
            }
            boolean lacksCutter = (isCut() || kind == 'x') && slot == NONE;
            return lacksCutter || isCut() && !isSpindleOn ? 's' : NO_ALARM;
        }

        /** The first one of the alarms 'l', 'c' and 'x' that applies. */
        private char findCellAlarm() {
            if (path.leavesSpace()) {
                return 'l';
            }
            if (pathMeets(house.fixtures) || kind == 'g' && pathMeets(stockCells)) {
                return 'c';
            }
            return kind == 'x' && meetsStockAtPlace() ? 'x' : NO_ALARM;
        }

        private boolean isCut() {
            return kind == 'l' || kind == 'd' || kind == 'p';
        }

        private boolean isWorn(int cutterSlot) {
            return isWithin(cutterSlot, 0, SLOTS - 1) && uses[cutterSlot] >= house.racks.lives[cutterSlot];
        }

        /** The told cutter or, if it is worn, the first one like it behind it that is not, or NONE. */
        private int slotToTake() {
            int told = slotOf(a, b);
            for (int cutterPlace = b; cutterPlace < RACK_PLACES; cutterPlace++) {
                int candidate = slotOf(a, cutterPlace);
                if (house.racks.areAlike(told, candidate) && !isWorn(candidate)) {
                    return candidate;
                }
            }
            return NONE;
        }

        /** A block that is no move gets a path without moves, which ends at the place. */
        private void planPath() {
            path.clear();
            path.endAt(place[0], place[1], place[2]);
            if (kind == 'g' || kind == 'l') {
                planSingleMove();
            } else if (kind == 'd') {
                planDrilling();
            } else if (kind == 'p') {
                planPocket();
            }
        }

        private void planSingleMove() {
            int[] base = isStepwise ? place : house.offsets;
            int first = isStepwise ? 0 : offset * AXES;
            if (!isWithin(first, 0, base.length - AXES)) {
                return;
            }
            int toX = base[first] + a;
            int toY = base[first + 1] + b;
            int toZ = base[first + 2] + c;
            path.addLeg(place[0], place[1], place[2], toX, toY, toZ);
            path.endAt(toX, toY, toZ);
        }

        private void planDrilling() {
            for (int i = 1; i < a && i * b < a; i++) {
                addCutDown(i * b);
            }
            addCutDown(a);
        }

        private void planPocket() {
            addCutDown(c);
            int nearX = place[0];
            int farX = place[0] + a;
            int y = place[1];
            int z = place[2] - c;
            path.addLeg(nearX, y, z, farX, y, z);
            int x = farX;
            for (int i = 0; i < b; i++) {
                path.addLeg(x, y, z, x, y + 1, z);
                y++;
                int otherX = x == nearX ? farX : nearX;
                path.addLeg(x, y, z, otherX, y, z);
                x = otherX;
            }
            path.endAt(x, y, place[2]);
        }

        private void addCutDown(int length) {
            path.addLeg(place[0], place[1], place[2], place[0], place[1], place[2] - length);
        }

        private boolean pathMeets(Cells cells) {
            if (slot == NONE) {
                return false;
            }
            for (int leg = 0; leg < path.legs; leg++) {
                int steps = path.stepsOf(leg);
                for (int step = 1; step <= steps; step++) {
                    moveReach(leg, step, steps);
                    if (cells.meets(reach)) {
                        return true;
                    }
                }
            }
            return false;
        }

        private void aimCutter() {
            if (isWithin(slot, 0, SLOTS - 1)) {
                reach.useCutter(house.racks.shapes[slot], house.racks.radii[slot]);
            }
        }

        private void moveReach(int leg, int step, int steps) {
            reach.moveTo(path.behindStep(leg, 0, step, steps), path.behindStep(leg, 1, step, steps),
                    path.behindStep(leg, 2, step, steps));
        }

        private boolean meetsStockAtPlace() {
            reach.moveTo(place[0], place[1], place[2]);
            return stockCells.meets(reach);
        }

        private void takeEffect() {
            int following = nextBlock + 1;
            switch (kind) {
                case 't':
                    slot = slotToTake();
                    break;
                case 's':
                    isSpindleOn = a == 1;
                    break;
                case 'f':
                    feed = a;
                    break;
                case 'm':
                    isStepwise = a == 1;
                    break;
                case 'o':
                    offset = a;
                    break;
                case 'v':
                    setVariable(a, b + c);
                    break;
                case 'x':
                    setVariable(a, leastFreeLevel());
                    break;
                case 'r':
                case 'i':
                    following = followingOpening();
                    break;
                case 'e':
                    following = followingClosing();
                    break;
                default:
                    break;
            }
            nextBlock = following;
        }

        private void carryOutMoves() {
            float stepTime = 1f / (float) (kind == 'g' ? RAPID_FEED : feed);
            for (int leg = 0; leg < path.legs; leg++) {
                int steps = path.stepsOf(leg);
                if (isCut()) {
                    cutLeg(leg, steps);
                }
                timeSoFar = timeSoFar + (float) steps * stepTime;
            }
            for (int axis = 0; axis < AXES; axis++) {
                place[axis] = path.endAlong(axis);
            }
        }

        private void cutLeg(int leg, int steps) {
            if (!isWithin(slot, 0, SLOTS - 1)) {
                return;
            }
            for (int step = 1; step <= steps; step++) {
                moveReach(leg, step, steps);
                uses[slot] += stockCells.takeAway(reach);
            }
        }

        private void setVariable(int variable, int number) {
            if (isWithin(variable, 0, VARIABLES - 1)) {
                variables[variable] = Math.max(-MOST_TERM, Math.min(MOST_TERM, number));
            }
        }

        private int leastFreeLevel() {
            for (int level = place[2]; level > 0; level--) {
                reach.moveTo(place[0], place[1], level - 1);
                if (stockCells.meets(reach)) {
                    return level;
                }
            }
            return 0;
        }

        private int followingOpening() {
            boolean isEntered = kind == 'r' ? a > 0 : a > b;
            if (!isEntered) {
                return house.program.partnerOf(nextBlock) + 1;
            }
            if (house.program.isBlock(nextBlock)) {
                timesLeft[nextBlock] = a;
            }
            return nextBlock + 1;
        }

        private int followingClosing() {
            int opening = house.program.partnerOf(nextBlock);
            if (!house.program.isBlock(opening) || house.program.kinds[opening] != 'r') {
                return nextBlock + 1;
            }
            timesLeft[opening]--;
            return timesLeft[opening] > 0 ? opening + 1 : nextBlock + 1;
        }
    }
}
