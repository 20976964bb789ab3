import java.util.NoSuchElementException;

/**
 * The document's promises 1 to 27, in their order: each sentence as it stands there, with calls that it decides. What stands
 * ahead of the promises is tested by DocumentTermsTest.
 */
public final class DocumentPromisesTest {
    private static final Class<IndexOutOfBoundsException> BOUNDS = IndexOutOfBoundsException.class;
    private static final Class<IllegalArgumentException> ARGUMENT = IllegalArgumentException.class;
    private static final Class<IllegalStateException> STATE = IllegalStateException.class;

    /** Takes the cell at 2, 1, 5, then three more down from there, then five around 7, 1, 4, in two layers. */
    private static final String TEN_AND_FOUR = "t 0 0,s 1,g 2 1 6,l 2 1 5,l 2 1 2,g 2 1 6,g 7 1 6,s 0,t 0 1,s 1,l 7 1 4";

    private static final Check check = new Check();

    public static void main(String[] args) {
        newObject();
        putCutter();
        putCutterThrows();
        setFixture();
        setOffset();
        addBlock();
        dropBlock();
        isClosed();
        run();
        reset();
        alarm();
        isOver();
        next();
        done();
        variable();
        at();
        cutter();
        used();
        has();
        hasAnew();
        stock();
        height();
        checksum();
        time();
        timeBits();
        meanUse();
        taken();
        isSound();
        check.end();
    }

    private static ToolrestMill ran(String blocks) {
        return Check.ran(Check.withEnds(), blocks);
    }

    /** Promise 1. */
    private static void newObject() {
        check.sentence("Creates a mill without cutters and blocks.");
        ToolrestMill mill = new ToolrestMill();
        check.dueThrow("meanUse()", ArithmeticException.class, mill::meanUse);
        check.dueThrow("dropBlock()", STATE, mill::dropBlock);
        check.due("next() and run(1)", mill.next() + " " + mill.run(1) + " " + mill.isOver(), "0 0 true");
        for (int slot = 0; slot < 12; slot++) {
            int at = slot;
            check.dueThrow("used() of " + slot, NoSuchElementException.class, () -> mill.used(at / 4, at % 4));
        }
    }

    /** Promise 2. */
    private static void putCutter() {
        check.sentence("Puts a cutter into a rack, in place of what is there.");
        ToolrestMill mill = Check.program("t 2 3", "s 1", "g 5 5 6", "l 5 5 4", "l 5 5 9");
        mill.putCutter(2, 3, 'e', 2, 999);
        mill.run(100);
        check.due("an end", mill.used(2, 3) + " " + mill.alarm(), "26 -");
        check.due("how many behind another one", mill.putCutter(2, 3, 'b', 2, 10), 1);
        mill.run(100);
        check.due("a ball", mill.used(2, 3) + " " + mill.alarm(), "10 w");
        mill.putCutter(2, 3, 'v', 1, 7);
        mill.run(100);
        check.due("a point", mill.used(2, 3) + " " + mill.alarm(), "6 -");
        mill.putCutter(2, 3, 'v', 1, 6);
        mill.run(100);
        check.due("a point with a shorter life", mill.used(2, 3) + " " + mill.alarm(), "6 w");
        check.sentence("rack: the rack, 0 to 2; place: the place in the rack, 0 to 3; shape: 'e', 'b' or 'v'; radius: the radius; life: the life");
        ToolrestMill all = new ToolrestMill();
        for (int slot = 0; slot < 12; slot++) {
            int radius = slot % 4;
            all.putCutter(slot / 4, slot % 4, "ebv".charAt(slot / 4), radius, 1 + slot);
            Check.ran(all, "s 0,t " + slot / 4 + " " + slot % 4);
            check.due("the cutter at " + slot, all.cutter() + " " + all.used(slot / 4, slot % 4), slot + " 0");
        }
        check.sentence("Returns how many cutters there are in the rack then.");
        ToolrestMill counts = new ToolrestMill();
        int[][] puts = {{0, 1, 1}, {1, 3, 1}, {0, 3, 2}, {0, 1, 2}, {2, 0, 1}, {0, 0, 3}, {1, 3, 1}, {1, 0, 2}, {0, 2, 4}, {0, 2, 4}};
        for (int[] put : puts) {
            check.due("in " + put[0], counts.putCutter(put[0], put[1], "ebv".charAt(put[0]), 1, 1), put[2]);
        }
    }

    private static void putCutterThrows() {
        check.sentence("Throws IndexOutOfBoundsException if there is no such rack or place");
        check.dueRange("rack", 0, 2, BOUNDS, rack -> new ToolrestMill().putCutter(rack, 3, "ebv".charAt(Math.floorMod(rack, 3)), 3, 999));
        check.dueRange("place", 0, 3, BOUNDS, place -> new ToolrestMill().putCutter(2, place, 'v', 0, 1));
        check.sentence("Throws IllegalArgumentException if there is no such shape, or a number is out of range");
        for (char shape = 0; shape < 600; shape++) {
            char told = shape;
            boolean isShape = shape == 'e' || shape == 'b' || shape == 'v';
            Class<?> thrown = Check.thrownBy(() -> new ToolrestMill().putCutter(2, 0, told, 0, 1));
            check.due("shape " + (int) shape, thrown, isShape ? null : ARGUMENT);
        }
        check.dueRange("radius", 0, 3, ARGUMENT, radius -> new ToolrestMill().putCutter(2, 0, 'b', radius, 999));
        check.dueRange("life", 1, 999, ARGUMENT, life -> new ToolrestMill().putCutter(2, 0, 'b', 3, life));
        check.sentence("Throws UnsupportedOperationException if the rack does not take it");
        for (int number = 0; number < 36; number++) {
            int slot = number / 3;
            char shape = "ebv".charAt(number % 3);
            boolean isTaken = slot >= 8 || slot / 4 == number % 3;
            Class<?> thrown = Check.thrownBy(() -> new ToolrestMill().putCutter(slot / 4, slot % 4, shape, 2, 50));
            check.due(shape + " at " + slot, thrown, isTaken ? null : UnsupportedOperationException.class);
        }
    }

    /** Promise 3. */
    private static void setFixture() {
        check.sentence("Makes a cell fixture, or not.");
        ToolrestMill mill = Check.withEnds("t 0 0", "s 1", "g 3 2 9", "l 3 2 0");
        for (int z = 0; z < 6; z++) {
            mill.setFixture(3, 2, z, true);
            mill.run(100);
            check.due("a fixture at " + z, mill.alarm() + " " + mill.stock(), "c 1152");
            mill.setFixture(3, 2, z, false);
            mill.run(100);
            check.due("none at " + z, mill.alarm() + " " + mill.stock(), "- 1146");
        }
        check.sentence("x: its x; y: its y; z: its z; isFixture: whether it is fixture from now on");
        for (int cell = 0; cell < 1152; cell += 7) {
            int x = cell % 16;
            int y = cell / 16 % 12;
            int z = cell / 192;
            ToolrestMill one = Check.withEnds("t 0 0", "s 1", "l " + x + " " + y + " 9", "l " + x + " " + y + " " + z);
            one.setFixture(x, y, z, true);
            check.due("to the fixture", one.run(100) + " " + one.alarm(), "3 c");
            one.setFixture((x + 1) % 16, y, z, true);
            one.setFixture(x, (y + 1) % 12, z, true);
            if (z > 0) {
                one.setFixture(x, y, z - 1, true);
            }
            one.setFixture(x, y, z, false);
            check.due("beside the fixtures", one.run(100) + " " + one.alarm() + " " + one.has(x, y, z), "4 - false");
        }
        check.sentence("Returns whether it was.");
        ToolrestMill told = new ToolrestMill();
        boolean was = false;
        for (int turn : new int[] {0, 1, 1, 0, 0, 1, 0, 1, 1, 1}) {
            check.due("was", told.setFixture(15, 11, 5, turn == 1), was);
            was = turn == 1;
        }
        check.sentence("Throws IndexOutOfBoundsException if there is no such cell (setFixture)");
        check.dueRange("x", 0, 15, BOUNDS, x -> new ToolrestMill().setFixture(x, 5, 3, true));
        check.dueRange("y", 0, 11, BOUNDS, y -> new ToolrestMill().setFixture(9, y, 3, true));
        check.dueRange("z", 0, 5, BOUNDS, z -> new ToolrestMill().setFixture(9, 5, z, false));
    }

    /** Promise 4. */
    private static void setOffset() {
        check.sentence("Sets an offset.");
        ToolrestMill mill = new ToolrestMill();
        for (int offset = 0; offset < 4; offset++) {
            mill.setOffset(offset, 2 * offset, 3 * offset, -offset);
        }
        Check.add(mill, "o 0", "g 1 1 9", "o 1", "g 1 1 9", "o 2", "g 1 1 9", "o 3", "g 1 1 9");
        for (String place : new String[] {"1 1 9", "3 4 8", "5 7 7", "7 10 6"}) {
            mill.run(2);
            check.due("place", Check.place(mill), place);
        }
        check.sentence("offset: the number of the offset, 0 to 3; x: its x, -15 to 15; y: its y, -15 to 15; z: its z, -15 to 15");
        for (int number = -15; number <= 15; number++) {
            ToolrestMill one = new ToolrestMill();
            one.setOffset(3, number, -number, number);
            Check.ran(one, "o 3,g " + (5 - number) + " " + (6 + number) + " " + (7 - number));
            check.due("by " + number, Check.place(one) + " " + one.alarm(), "5 6 7 -");
        }
        check.sentence("Returns the x before.");
        check.due("0 at first", new ToolrestMill().setOffset(2, 9, 8, 7), 0);
        for (int offset = 0; offset < 4; offset++) {
            check.due("offset " + offset, mill.setOffset(offset, 7, 8, 9), 2 * offset);
            check.due("the x just told", mill.setOffset(offset, -15, 0, 0), 7);
        }
        check.sentence("Throws IllegalArgumentException if a number is out of range (setOffset)");
        check.dueRange("offset", 0, 3, ARGUMENT, offset -> new ToolrestMill().setOffset(offset, 0, 0, 0));
        check.dueRange("x", -15, 15, ARGUMENT, x -> new ToolrestMill().setOffset(1, x, 1, 2));
        check.dueRange("y", -15, 15, ARGUMENT, y -> new ToolrestMill().setOffset(2, 2, y, 3));
        check.dueRange("z", -15, 15, ARGUMENT, z -> new ToolrestMill().setOffset(3, 3, 4, z));
    }

    /** Promise 5. */
    private static void addBlock() {
        check.sentence("Adds a block behind the others.");
        ToolrestMill mill = new ToolrestMill();
        for (int block = 0; block < 20; block++) {
            Check.add(mill, block % 2 == 0 ? "v 0 100 1" : "v 0 100 100");
        }
        int due = 0;
        for (int block = 0; block < 20; block++) {
            due = Math.min(50, block % 2 == 0 ? due + 1 : due + due);
            mill.run(1);
            check.due("behind block " + block, mill.variable(0), due);
        }
        check.sentence("kind: 'g', 'l', 'd', 'p', 't', 's', 'f', 'm', 'o', 'v', 'x', 'r', 'i', 'e' or 'q'");
        for (char kind = 0; kind < 600; kind++) {
            char told = kind;
            boolean isKind = "gldptsfmovxrieq".indexOf(kind) >= 0;
            check.due("kind " + (int) kind, Check.thrownBy(() -> new ToolrestMill().addBlock(told, 1, 1, 1)), isKind ? null : ARGUMENT);
        }
        check.sentence("a: the term a; b: the term b; c: the term c; terms that have no meaning are told, too");
        check.due("a, b and c", Check.place(Check.ran(new ToolrestMill(), "v 1 4 0,v 2 5 0,g 101 102 7")), "4 5 7");
        check.due("without meaning", Check.ran(new ToolrestMill(), "q 50 -50 107").done(), 1);
        check.sentence("Returns the number of the block.");
        ToolrestMill all = new ToolrestMill();
        for (int block = 0; block < 64; block++) {
            check.due("number", all.addBlock("gldptsfmovxrieq".charAt(block % 15), 0, 0, 0), block);
        }
        check.sentence("Throws IllegalArgumentException if there is no such kind or term");
        for (int number = -120; number <= 220; number++) {
            int term = number;
            Class<?> want = term >= -50 && term <= 50 || term >= 100 && term <= 107 ? null : ARGUMENT;
            check.due("a " + term, Check.thrownBy(() -> new ToolrestMill().addBlock('g', term, 0, 0)), want);
            check.due("b " + term, Check.thrownBy(() -> new ToolrestMill().addBlock('p', 0, term, 0)), want);
            check.due("c " + term, Check.thrownBy(() -> new ToolrestMill().addBlock('s', 0, 0, term)), want);
        }
        check.sentence("Throws IllegalStateException if there are 64 blocks");
        check.dueThrow("block 64", STATE, () -> all.addBlock('q', 0, 0, 0));
        check.due("one taken away", all.dropBlock() + " " + all.addBlock('q', 0, 0, 0), "63 63");
        check.dueThrow("block 64 again", STATE, () -> all.addBlock('e', 0, 0, 0));
    }

    /** Promise 6. */
    private static void dropBlock() {
        check.sentence("Takes the last block away.");
        ToolrestMill mill = Check.program("v 0 1 0", "v 0 2 0", "v 0 3 0", "v 0 4 0");
        for (int last = 4; last >= 1; last--) {
            check.due("carried out", mill.run(100) + " " + mill.variable(0), last + " " + last);
            check.due("left", mill.dropBlock(), last - 1);
        }
        check.sentence("Returns the number of blocks that are left.");
        ToolrestMill full = new ToolrestMill();
        for (int block = 0; block < 64; block++) {
            full.addBlock("rie".charAt(block % 3), 1, 0, 0);
        }
        for (int left = 63; left >= 0; left--) {
            check.due("left", full.dropBlock(), left);
        }
        check.sentence("Throws IllegalStateException if there are none (dropBlock)");
        check.dueThrow("none left", STATE, full::dropBlock);
        check.dueThrow("none left", STATE, mill::dropBlock);
        check.due("a new one", full.addBlock('q', 0, 0, 0) + " " + full.dropBlock(), "0 0");
    }

    /** Promise 7. */
    private static void isClosed() {
        check.sentence("Returns whether the program is closed. Returns whether it is.");
        ToolrestMill mill = new ToolrestMill();
        String blocks = "virervegeiieree";
        int open = 0;
        for (char kind : blocks.toCharArray()) {
            mill.addBlock(kind, 1, 0, 0);
            open += kind == 'r' || kind == 'i' ? 1 : kind == 'e' ? -1 : 0;
            check.due("closed behind " + kind, mill.isClosed(), open == 0);
        }
        for (int left = blocks.length() - 1; left > 0; left--) {
            char kind = blocks.charAt(left);
            open -= kind == 'r' || kind == 'i' ? 1 : kind == 'e' ? -1 : 0;
            mill.dropBlock();
            check.due("closed with " + left + " blocks", mill.isClosed(), open == 0);
        }
        ToolrestMill deep = Check.program("i 1", "r 1", "i 1", "r 1", "e", "e", "e", "e");
        check.due("four open at once", deep.isClosed(), false);
        check.due("an 'e' too many", Check.program("r 1", "e", "e").isClosed(), false);
        check.due("an 'e' ahead", Check.program("e", "r 1").isClosed(), false);
    }

    /** Promise 8. */
    private static void run() {
        check.sentence("Runs blocks. blocks: how many at most, 1 to 100. Returns how many were carried out.");
        for (int blocks = 1; blocks <= 100; blocks++) {
            ToolrestMill mill = Check.program("v 0 1 0", "r 9", "v 1 101 1", "r 2", "v 2 102 1", "e", "e", "v 3 1 0");
            int all = 2 + 9 * (1 + 1 + 2 * 2 + 1) + 1;
            check.due("run(" + blocks + ")", mill.run(blocks) + " " + mill.done(), Math.min(blocks, all) + " " + Math.min(blocks, all));
            check.due("the rest", mill.run(100) + " " + mill.isOver(), Math.max(0, all - blocks) + " true");
            check.due("none behind the last one", mill.run(blocks), 0);
        }
        ToolrestMill alarmed = Check.program("v 0 1 0", "q", "v 0 2 0", "v 9 2 0", "v 0 3 0");
        check.due("to the stop", alarmed.run(100) + " " + alarmed.alarm(), "2 -");
        check.due("to the alarm", alarmed.run(100) + " " + alarmed.alarm(), "1 n");
        check.due("at the alarm", alarmed.run(100) + " " + alarmed.alarm() + " " + alarmed.variable(0), "0 n 2");
        check.sentence("Throws IllegalArgumentException if the number is out of range (run)");
        check.dueRange("blocks", 1, 100, ARGUMENT, blocks -> Check.program("v 0 1 0").run(blocks));
        check.sentence("Throws IllegalStateException if the program is not closed (run)");
        check.dueThrow("open", STATE, () -> Check.program("v 0 1 0", "i 1 0").run(1));
        check.dueThrow("not opened", STATE, () -> Check.program("v 0 1 0", "e").run(1));
    }

    /** Promise 9. */
    private static void reset() {
        check.sentence("Begins the run anew, with all cells as stock again and cutters without use.");
        ToolrestMill mill = ran(TEN_AND_FOUR);
        String state = Check.state(mill);
        check.due("in the run", mill.used(0, 0) + " " + mill.used(0, 1) + " " + mill.stock(), "4 10 1138");
        check.sentence("Returns how many blocks had been carried out.");
        check.due("all 11", mill.reset(), 11);
        check.due("none", mill.reset(), 0);
        check.due("begun", mill.used(0, 0) + " " + mill.used(0, 1) + " " + mill.stock() + " " + mill.checksum() + " " + mill.cutter() + " "
                + Check.place(mill) + " " + mill.timeBits() + " " + mill.next(), "0 0 1152 510271680 -1 0 0 9 0 0");
        check.due("the same run again", mill.run(100), 11);
        check.due("the same state", Check.state(mill), state);
    }

    /** Promise 10. */
    private static void alarm() {
        check.sentence("Returns the alarm that the run ended with last. Returns the alarm that the last call of run() ended with, or '-' for "
                + "none, also if there was no such call since the run began.");
        ToolrestMill mill = Check.withEnds("v 0 1 0", "s 5", "v 0 2 0");
        check.due("no call", mill.alarm(), '-');
        mill.run(1);
        check.due("ended without one", mill.alarm(), '-');
        mill.run(1);
        check.due("ended with one", mill.alarm(), 'n');
        mill.run(1);
        check.due("ended with it again", mill.alarm(), 'n');
        mill.reset();
        check.due("no call since the run began", mill.alarm(), '-');
        mill.run(2);
        check.due("ended with one again", mill.alarm(), 'n');
        for (String row : "n:s 5,t:s 1;t 0 0,s:x 0,l:g 0 0 10,c:t 0 0;g 0 0 5,x:g 0 0 5;t 0 0;x 0".split(",")) {
            check.due(row, ran(row.substring(2).replace(';', ',')).alarm(), row.charAt(0));
        }
        ToolrestMill worn = new ToolrestMill();
        worn.putCutter(1, 1, 'b', 0, 1);
        check.due("w", Check.ran(worn, "t 1 1,s 1,l 0 0 5,l 0 0 6").alarm(), 'w');
    }

    /** Promise 11. */
    private static void isOver() {
        check.sentence("Returns whether the run is over. Returns whether it is.");
        ToolrestMill mill = Check.program("r 2", "v 0 100 1", "e", "i 0 0", "q", "e");
        for (int block = 0; block < 6; block++) {
            check.due("ahead of block " + block + " of the run", mill.isOver(), false);
            mill.run(1);
        }
        check.due("behind the part that is left out", mill.isOver(), true);
        mill.reset();
        check.due("begun", mill.isOver(), false);
        check.due("at an alarm", Check.ran(new ToolrestMill(), "x 0").isOver(), false);
    }

    /** Promise 12. */
    private static void next() {
        check.sentence("Returns the block that is carried out next. Returns the number of the block, or that of all blocks if the run is over.");
        ToolrestMill mill = Check.program("r 2", "i 100 0", "q", "e", "v 0 100 1", "e", "v 1 1 1");
        for (int next : new int[] {0, 1, 4, 5, 1, 2, 3, 4, 5, 6}) {
            check.due("next", mill.next() + " " + mill.run(1), next + " 1");
        }
        check.due("over", mill.next() + " " + mill.run(1), "7 0");
        check.due("at an alarm", Check.ran(new ToolrestMill(), "v 0 1 1,x 0,v 0 1 1").next(), 1);
    }

    /** Promise 13. */
    private static void done() {
        check.sentence("Returns how many blocks were carried out since the run began. Returns the number of blocks.");
        ToolrestMill mill = Check.program("r 9", "r 9", "v 0 100 1", "e", "e");
        int all = 1 + 9 * (1 + 9 * 2 + 1);
        int carried = 0;
        for (int blocks = 1; blocks <= 20; blocks++) {
            carried += mill.run(blocks);
            check.due("so far", mill.done(), carried);
        }
        check.due("all", mill.done(), all);
        mill.reset();
        check.due("begun", mill.done(), 0);
        check.due("not the one with an alarm", Check.ran(new ToolrestMill(), "v 0 1 1,x 0").done(), 1);
    }

    /** Promise 14. */
    private static void variable() {
        check.sentence("Returns a variable. variable: the number of the variable, 0 to 7. Returns what it is.");
        for (int told = 0; told < 8; told++) {
            ToolrestMill mill = Check.ran(new ToolrestMill(), "v " + told + " -9 " + told);
            for (int asked = 0; asked < 8; asked++) {
                check.due("variable " + asked, mill.variable(asked), asked == told ? told - 9 : 0);
            }
        }
        check.sentence("Throws IllegalArgumentException if there is no such variable");
        check.dueRange("variable", 0, 7, ARGUMENT, number -> new ToolrestMill().variable(number));
    }

    /** Promise 15. */
    private static void at() {
        check.sentence("Returns the place of the cutter along an axis. axis: 0 for x, 1 for y, 2 for z. Returns the number.");
        ToolrestMill mill = Check.ran(new ToolrestMill(), "g 13 7 2");
        check.due("x", mill.at(0), 13);
        check.due("y", mill.at(1), 7);
        check.due("z", mill.at(2), 2);
        check.sentence("Throws IllegalArgumentException if there is no such axis");
        check.dueRange("axis", 0, 2, ARGUMENT, axis -> new ToolrestMill().at(axis));
    }

    /** Promise 16. */
    private static void cutter() {
        check.sentence("Returns the cutter that is used. Returns 4 times the rack plus the place, or -1 for none.");
        ToolrestMill mill = new ToolrestMill();
        for (int slot = 0; slot < 12; slot++) {
            mill.putCutter(slot / 4, slot % 4, "ebv".charAt(slot / 4), 1, 9);
        }
        for (int slot = 11; slot >= 0; slot--) {
            Check.add(mill, "t " + slot / 4 + " " + slot % 4);
        }
        check.due("none", mill.cutter(), -1);
        for (int slot = 11; slot >= 0; slot--) {
            mill.run(1);
            check.due("slot", mill.cutter(), slot);
        }
    }

    /** Promise 17. */
    private static void used() {
        check.sentence("Returns the use of a cutter. rack: the rack, 0 to 2; place: the place in the rack, 0 to 3. Returns the use.");
        for (int slot = 0; slot < 12; slot++) {
            ToolrestMill mill = new ToolrestMill();
            for (int other = 0; other < 12; other++) {
                mill.putCutter(other / 4, other % 4, "ebv".charAt(other / 4), 0, 99);
            }
            Check.ran(mill, "t " + slot / 4 + " " + slot % 4 + ",s 1,l 0 0 5,l " + slot + " 0 5");
            for (int other = 0; other < 12; other++) {
                check.due("use of " + other, mill.used(other / 4, other % 4), other == slot ? slot + 1 : 0);
            }
        }
        check.sentence("Throws IndexOutOfBoundsException if there is no such rack or place (used)");
        check.dueRange("rack", 0, 2, BOUNDS, rack -> all().used(rack, 0));
        check.dueRange("place", 0, 3, BOUNDS, place -> all().used(2, place));
        check.sentence("Throws NoSuchElementException if no cutter is there");
        for (int place = 0; place < 4; place++) {
            int at = place;
            check.due("place " + place, Check.thrownBy(() -> Check.withEnds().used(0, at)), place < 2 ? null : NoSuchElementException.class);
        }
    }

    private static ToolrestMill all() {
        ToolrestMill mill = new ToolrestMill();
        for (int slot = 0; slot < 12; slot++) {
            mill.putCutter(slot / 4, slot % 4, "ebv".charAt(slot / 4), 1, 1);
        }
        return mill;
    }

    private static boolean isInTenAndFour(int x, int y, int z) {
        return x == 2 && y == 1 && z >= 2 || z >= 4 && Math.abs(x - 7) + Math.abs(y - 1) <= 1;
    }

    /** Promise 18. */
    private static void has() {
        check.sentence("Returns whether a cell is stock. x: its x; y: its y; z: its z. Returns whether it is.");
        for (int z = 0; z < 6; z++) {
            ToolrestMill mill = ran(TEN_AND_FOUR);
            for (int i = 0; i < 192; i++) {
                check.due("cell " + i % 16 + " " + i / 16 + " " + z, mill.has(i % 16, i / 16, z), !isInTenAndFour(i % 16, i / 16, z));
            }
        }
        check.sentence("Throws IndexOutOfBoundsException if there is no such cell (has)");
        check.dueRange("x", 0, 15, BOUNDS, x -> new ToolrestMill().has(x, 5, 3));
        check.dueRange("y", 0, 11, BOUNDS, y -> new ToolrestMill().has(9, y, 3));
        check.dueRange("z", 0, 5, BOUNDS, z -> new ToolrestMill().has(9, 5, z));
    }

    /** Promise 19. */
    private static void hasAnew() {
        check.sentence("Returns the same, found by carrying out as many blocks from nothing. x: its x; y: its y; z: its z. Returns whether it is.");
        for (int blocks = 1; blocks <= 11; blocks++) {
            for (int z = 2; z < 6; z++) {
                ToolrestMill mill = Check.add(Check.withEnds(), TEN_AND_FOUR.split(","));
                mill.run(blocks);
                for (int i = 0; i < 64; i++) {
                    check.due("cell " + i % 16 + " " + i / 16 + " " + z, mill.hasAnew(i % 16, i / 16, z), mill.has(i % 16, i / 16, z));
                }
            }
        }
        for (int z = 0; z < 6; z++) {
            ToolrestMill mill = ran(TEN_AND_FOUR);
            for (int i = 0; i < 192; i++) {
                check.due("cell " + i % 16 + " " + i / 16 + " " + z, mill.hasAnew(i % 16, i / 16, z), !isInTenAndFour(i % 16, i / 16, z));
            }
        }
        check.sentence("Throws IndexOutOfBoundsException if there is no such cell (hasAnew)");
        check.dueRange("x", 0, 15, BOUNDS, x -> new ToolrestMill().hasAnew(x, 5, 3));
        check.dueRange("y", 0, 11, BOUNDS, y -> new ToolrestMill().hasAnew(9, y, 3));
        check.dueRange("z", 0, 5, BOUNDS, z -> new ToolrestMill().hasAnew(9, 5, z));
    }

    /** Promise 20. */
    private static void stock() {
        check.sentence("Returns how many cells are stock. Returns the number of cells.");
        ToolrestMill mill = Check.add(Check.withEnds(), TEN_AND_FOUR.split(","));
        for (int due : new int[] {1152, 1152, 1152, 1151, 1148, 1148, 1148, 1148, 1148, 1148, 1138, 1138}) {
            mill.run(1);
            check.due("stock", mill.stock(), due);
        }
    }

    /** Promise 21. */
    private static void height() {
        check.sentence("Returns the height of the stock at a column. x: its x; y: its y. Returns the greatest z of a stock cell, plus 1, or 0.");
        ToolrestMill mill = ran(TEN_AND_FOUR);
        for (int i = 0; i < 192; i++) {
            int due = i == 18 ? 2 : isInTenAndFour(i % 16, i / 16, 5) ? 4 : 6;
            check.due("column " + i % 16 + " " + i / 16, mill.height(i % 16, i / 16), due);
        }
        check.due("a column without stock", ran("t 0 0,s 1,g 9 9 9,d 9 3").height(9, 9), 0);
        check.sentence("Throws IndexOutOfBoundsException if there is no such column");
        check.dueRange("x", 0, 15, BOUNDS, x -> new ToolrestMill().height(x, 5));
        check.dueRange("y", 0, 11, BOUNDS, y -> new ToolrestMill().height(9, y));
    }

    /** Promise 22. */
    private static void checksum() {
        check.sentence("Returns a sum over the stock. Returns the sum, over all stock cells, of x plus 16 times y plus 192 times z, plus 1, times itself.");
        long sum = 0;
        for (int x = 0; x < 16; x++) {
            for (int y = 0; y < 12; y++) {
                for (int z = 0; z < 6; z++) {
                    long number = x + 16 * y + 192 * z + 1;
                    sum += isInTenAndFour(x, y, z) ? 0 : number * number;
                }
            }
        }
        check.due("sum", ran(TEN_AND_FOUR).checksum(), sum);
    }

    /** Promise 23. */
    private static void time() {
        check.sentence("Returns the time of the run so far. Returns the time.");
        ToolrestMill mill = Check.add(Check.withEnds(), TEN_AND_FOUR.split(","));
        float time = 0;
        int[] steps = {0, 0, -3, 1, 3, -4, -5, 0, 0, 0, 2};
        for (int block = 0; block < steps.length; block++) {
            mill.run(1);
            time += steps[block] < 0 ? (float) -steps[block] * (1f / 100f) : (float) steps[block] * (1f / 10f);
            check.due("behind block " + block, mill.time(), time);
        }
    }

    /** Promise 24. */
    private static void timeBits() {
        check.sentence("Returns the bits of the time. Returns the bits, as Float.floatToIntBits() tells them.");
        for (int feed = 1; feed <= 50; feed++) {
            ToolrestMill mill = Check.withEnds("t 0 0", "s 1", "f " + feed, "r 9", "l 11 3 9", "g 0 0 9", "e");
            for (int part = 0; part < 40; part++) {
                mill.run(1);
                check.due("bits", mill.timeBits(), Float.floatToIntBits(mill.time()));
            }
        }
    }

    /** Promise 25. */
    private static void meanUse() {
        check.sentence("Returns the mean number of cells that cutters took. Returns the sum of their uses divided by the number of cutters in all "
                + "racks, both converted to double.");
        ToolrestMill mill = ran(TEN_AND_FOUR);
        check.due("14 by 2", mill.meanUse(), 7.0);
        for (int cutters = 3; cutters <= 12; cutters++) {
            int slot = cutters - 1;
            mill.putCutter(slot / 4, slot % 4, "ebv".charAt(slot / 4), 3, 1);
            check.due("none", mill.meanUse(), 0.0);
            mill.run(100);
            check.due("14 by " + cutters, mill.meanUse(), 14.0 / cutters);
        }
        check.sentence("Throws ArithmeticException if there are none");
        check.dueThrow("none", ArithmeticException.class, () -> Check.ran(new ToolrestMill(), "g 1 1 1").meanUse());
    }

    private static void share(String what, ToolrestMill mill, int gone) {
        float left = (float) (1152 - gone - gone);
        check.due(what, mill.stock() + " " + Float.floatToRawIntBits(mill.taken()),
                1152 - gone + " " + Float.floatToRawIntBits(Math.copySign((float) gone / 1152f, left)));
    }

    /** Promise 26. */
    private static void taken() {
        check.sentence("Returns the share of the stock that was taken, with the sign of what is left less what was taken. Returns the number of "
                + "cells that were taken, converted to float, divided by 1152; with the sign that what is left, less what was taken, has as "
                + "a float, by Math.copySign().");
        share("none", new ToolrestMill(), 0);
        share("fourteen", ran(TEN_AND_FOUR), 14);
        for (int rows = 0; rows <= 11; rows++) {
            for (int depth = 4; depth <= 9; depth++) {
                share(rows + 1 + " rows by " + depth, ran("t 0 0,s 1,p 15 " + rows + " " + depth), 16 * (rows + 1) * (depth - 3));
            }
        }
    }

    /** Promise 27. */
    private static void isSound() {
        check.sentence("Returns whether all is sound: each cell is stock by both ways; the time is the same by both; the uses of cutters add up "
                + "to what was taken; and no fixture was cut. Returns whether this holds.");
        for (int z = 0; z < 6; z++) {
            ToolrestMill mill = Check.add(Check.withEnds(), TEN_AND_FOUR.split(","));
            Check.add(mill, "l 7 1 0", "g 7 1 9", "p 8 4 9", "l 0 0 12");
            mill.setFixture(7, 1, z, true);
            for (int block = 0; block < 16; block++) {
                check.due("sound", mill.isSound(), true);
                mill.run(1);
                check.due("uses", mill.used(0, 0) + mill.used(0, 1), 1152 - mill.stock());
                check.due("the fixture", mill.has(7, 1, z) + " " + mill.hasAnew(7, 1, z), "true true");
            }
            check.due("up to the fixture", mill.alarm() + " " + mill.next(), z >= 4 ? "c 10" : "c 11");
        }
    }
}
