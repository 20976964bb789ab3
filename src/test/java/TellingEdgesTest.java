import java.util.NoSuchElementException;

/** Promises 1 to 7, and the terms that they use, at their edges: a test for each sentence that names one. */
public final class TellingEdgesTest {
    private static final Class<IndexOutOfBoundsException> BOUNDS = IndexOutOfBoundsException.class;
    private static final Class<IllegalArgumentException> ARGUMENT = IllegalArgumentException.class;
    private static final Class<UnsupportedOperationException> UNSUPPORTED = UnsupportedOperationException.class;
    private static final Class<IllegalStateException> STATE = IllegalStateException.class;
    private static final Class<NoSuchElementException> NONE_THERE = NoSuchElementException.class;
    private static final String KINDS = "gldptsfmovxrieq";

    private static final Check check = new Check();

    public static void main(String[] args) {
        newMill();
        placesOfRacks();
        shapesThereAre();
        numbersOfCutters();
        racksTake();
        countsOfCutters();
        severalExceptionsOfPutCutter();
        cellsOfFixtures();
        fixturesBefore();
        numbersOfOffsets();
        offsetsBefore();
        offsetsAreUsedWhole();
        kindsThereAre();
        termsThereAre();
        numbersOfBlocks();
        fullProgram();
        severalExceptionsOfAddBlock();
        noBlocks();
        lastBlock();
        closedPrograms();
        openPrograms();
        threeOpenAtOnce();
        longestParts();
        tellingBeginsAnew();
        check.end();
    }

    /** Promise 1, and what the terms say of the beginning. */
    private static void newMill() {
        check.sentence("Creates a mill without cutters and blocks");
        for (int slot = 0; slot < 12; slot++) {
            int at = slot;
            check.dueThrow("used at " + slot, NONE_THERE, () -> new ToolrestMill().used(at / 4, at % 4));
        }
        check.dueThrow("dropBlock()", STATE, () -> new ToolrestMill().dropBlock());
        check.due("next()", new ToolrestMill().next(), 0);
        check.due("isOver()", new ToolrestMill().isOver(), true);
        check.due("isClosed()", new ToolrestMill().isClosed(), true);
        check.due("run(1)", new ToolrestMill().run(1), 0);
        check.sentence("all of these are stock at first, and each is fixture or not, none at first");
        for (int z = 0; z < 6; z++) {
            ToolrestMill mill = new ToolrestMill();
            for (int i = 0; i < 192; i++) {
                check.due("has", mill.has(i % 16, i / 16, z), true);
                check.due("fixture before", mill.setFixture(i % 16, i / 16, z, false), false);
            }
        }
        check.sentence("it is at 0, 0, 9 at first");
        check.due("place", Check.place(new ToolrestMill()), "0 0 9");
        check.sentence("Offsets 0 to 3 have an x, a y and a z, 0 at first");
        for (int offset = 0; offset < 4; offset++) {
            check.due("x before", new ToolrestMill().setOffset(offset, 1, 1, 1), 0);
            check.due("place", Check.place(Check.ran(new ToolrestMill(), "o " + offset + ",g 3 4 5")), "3 4 5");
        }
    }

    /** Promise 2. */
    private static void placesOfRacks() {
        check.sentence("the rack, 0 to 2; the place in the rack, 0 to 3");
        check.dueRange("rack", 0, 2, BOUNDS, rack -> new ToolrestMill().putCutter(rack, 0, rack == 1 ? 'b' : 'e', 1, 1));
        for (int rack = 0; rack < 3; rack++) {
            int of = rack;
            check.dueRange("place", 0, 3, BOUNDS, place -> new ToolrestMill().putCutter(of, place, "ebv".charAt(of), 1, 1));
        }
        check.sentence("There are the racks 0, 1 and 2, each with the places 0 to 3");
        for (int slot = 0; slot < 12; slot++) {
            ToolrestMill mill = new ToolrestMill();
            mill.putCutter(slot / 4, slot % 4, "ebv".charAt(slot / 4), 1, 1);
            for (int other = 0; other < 12; other++) {
                int at = other;
                Class<?> thrown = Check.thrownBy(() -> mill.used(at / 4, at % 4));
                check.due("cutter at " + other, thrown, other == slot ? null : NONE_THERE);
            }
        }
    }

    private static void shapesThereAre() {
        check.sentence("A cutter has a shape, 'e' an end, 'b' a ball or 'v' a point");
        for (int sign = 0; sign < 65536; sign++) {
            char shape = (char) sign;
            boolean isShape = shape == 'e' || shape == 'b' || shape == 'v';
            Class<?> thrown = Check.thrownBy(() -> new ToolrestMill().putCutter(2, 0, shape, 1, 1));
            check.due("shape " + sign + " throws", thrown, isShape ? null : ARGUMENT);
        }
    }

    private static void numbersOfCutters() {
        for (int rack = 0; rack < 3; rack++) {
            int of = rack;
            char shape = "ebv".charAt(rack);
            check.sentence("a radius from 0 to 3");
            check.dueRange("radius", 0, 3, ARGUMENT, radius -> new ToolrestMill().putCutter(of, 0, shape, radius, 1));
            check.sentence("a life from 1 to 999");
            check.dueRange("life", 1, 999, ARGUMENT, life -> new ToolrestMill().putCutter(of, 0, shape, 0, life));
        }
        check.due("radius 0 and life 1", new ToolrestMill().putCutter(0, 3, 'e', 0, 1), 1);
        check.due("radius 3 and life 999", new ToolrestMill().putCutter(2, 3, 'v', 3, 999), 1);
    }

    private static void racksTake() {
        check.sentence("The rack 0 takes ends alone, the rack 1 balls alone");
        for (int slot = 0; slot < 12; slot++) {
            int rack = slot / 4;
            int place = slot % 4;
            for (char shape : "ebv".toCharArray()) {
                boolean isTaken = rack == 2 || rack == 0 && shape == 'e' || rack == 1 && shape == 'b';
                Class<?> thrown = Check.thrownBy(() -> new ToolrestMill().putCutter(rack, place, shape, 0, 1));
                check.due(shape + " into " + rack + " throws", thrown, isTaken ? null : UNSUPPORTED);
            }
        }
    }

    private static void countsOfCutters() {
        check.sentence("Returns how many cutters there are in the rack then");
        ToolrestMill mill = new ToolrestMill();
        for (int rack = 0; rack < 3; rack++) {
            char shape = "ebe".charAt(rack);
            for (int place = 0; place < 4; place++) {
                check.due("empty place " + rack + " " + place, mill.putCutter(rack, 3 - place, shape, 1, 1), place + 1);
            }
            for (int place = 0; place < 4; place++) {
                check.due("full rack " + rack, mill.putCutter(rack, place, shape, 1, 1), 4);
            }
        }
        check.sentence("Puts a cutter into a rack, in place of what is there");
        ToolrestMill replaced = new ToolrestMill();
        replaced.putCutter(2, 1, 'v', 3, 1);
        check.due("count", replaced.putCutter(2, 1, 'e', 0, 2), 1);
        Check.ran(replaced, "t 2 1,s 1,l 0 0 5,l 0 0 4,l 0 0 3");
        check.due("shape, radius and life", replaced.used(2, 1) + " " + replaced.alarm() + " " + replaced.next(), "2 w 4");
    }

    private static void severalExceptionsOfPutCutter() {
        check.sentence("If several exceptions apply, the one that is documented first is thrown (putCutter)");
        int[][] noPlaces = {{-1, 0}, {3, 0}, {0, -1}, {0, 4}, {1, 4}, {2, -1}, {3, 4}};
        for (int[] slot : noPlaces) {
            check.dueThrow("no place, no shape", BOUNDS, () -> new ToolrestMill().putCutter(slot[0], slot[1], 'q', 1, 1));
            check.dueThrow("no place, no radius", BOUNDS, () -> new ToolrestMill().putCutter(slot[0], slot[1], 'e', 4, 1));
            check.dueThrow("no place, no life", BOUNDS, () -> new ToolrestMill().putCutter(slot[0], slot[1], 'e', 1, 0));
            check.dueThrow("no place, not taken", BOUNDS, () -> new ToolrestMill().putCutter(slot[0], slot[1], 'v', 1, 1));
            check.dueThrow("all", BOUNDS, () -> new ToolrestMill().putCutter(slot[0], slot[1], 'b', -1, 1000));
        }
        for (int rack = 0; rack < 2; rack++) {
            int of = rack;
            for (char shape : rack == 0 ? new char[] {'b', 'v'} : new char[] {'e', 'v'}) {
                check.dueThrow("not taken, radius -1", ARGUMENT, () -> new ToolrestMill().putCutter(of, 0, shape, -1, 1));
                check.dueThrow("not taken, radius 4", ARGUMENT, () -> new ToolrestMill().putCutter(of, 0, shape, 4, 1));
                check.dueThrow("not taken, life 0", ARGUMENT, () -> new ToolrestMill().putCutter(of, 0, shape, 3, 0));
                check.dueThrow("not taken, life 1000", ARGUMENT, () -> new ToolrestMill().putCutter(of, 0, shape, 0, 1000));
                check.dueThrow("not taken alone", UNSUPPORTED, () -> new ToolrestMill().putCutter(of, 0, shape, 3, 999));
            }
            check.dueThrow("a shape that is none", ARGUMENT, () -> new ToolrestMill().putCutter(of, 0, 'w', 1, 1));
        }
    }

    /** Promise 3. */
    private static void cellsOfFixtures() {
        check.sentence("cells with an x from 0 to 15, a y from 0 to 11 and a z from 0 to 5 (setFixture)");
        check.dueRange("x", 0, 15, BOUNDS, x -> new ToolrestMill().setFixture(x, 11, 5, true));
        check.dueRange("y", 0, 11, BOUNDS, y -> new ToolrestMill().setFixture(15, y, 5, true));
        check.dueRange("z", 0, 5, BOUNDS, z -> new ToolrestMill().setFixture(15, 11, z, true));
        check.dueRange("x to false", 0, 15, BOUNDS, x -> new ToolrestMill().setFixture(x, 0, 0, false));
        check.dueRange("y to false", 0, 11, BOUNDS, y -> new ToolrestMill().setFixture(0, y, 0, false));
        check.dueRange("z to false", 0, 5, BOUNDS, z -> new ToolrestMill().setFixture(0, 0, z, false));
    }

    private static void fixturesBefore() {
        check.sentence("Returns whether it was");
        int[][] corners = {{0, 0, 0}, {15, 0, 0}, {0, 11, 0}, {0, 0, 5}, {15, 11, 0}, {15, 0, 5}, {0, 11, 5}, {15, 11, 5}};
        for (int[] corner : corners) {
            ToolrestMill mill = new ToolrestMill();
            check.due("none at first", mill.setFixture(corner[0], corner[1], corner[2], true), false);
            check.due("told again", mill.setFixture(corner[0], corner[1], corner[2], true), true);
            for (int[] other : corners) {
                if (other != corner) {
                    check.due("another corner", mill.setFixture(other[0], other[1], other[2], false), false);
                }
            }
            check.due("still", mill.setFixture(corner[0], corner[1], corner[2], false), true);
            check.due("not any more", mill.setFixture(corner[0], corner[1], corner[2], false), false);
        }
    }

    /** Promise 4. */
    private static void numbersOfOffsets() {
        check.sentence("the number of the offset, 0 to 3");
        check.dueRange("offset", 0, 3, ARGUMENT, offset -> new ToolrestMill().setOffset(offset, 15, 15, 15));
        check.sentence("its x, its y and its z, -15 to 15");
        for (int offset = 0; offset < 4; offset++) {
            int of = offset;
            check.dueRange("x", -15, 15, ARGUMENT, x -> new ToolrestMill().setOffset(of, x, 0, 0));
            check.dueRange("y", -15, 15, ARGUMENT, y -> new ToolrestMill().setOffset(of, 0, y, 0));
            check.dueRange("z", -15, 15, ARGUMENT, z -> new ToolrestMill().setOffset(of, 0, 0, z));
        }
    }

    private static void offsetsBefore() {
        check.sentence("Returns the x before");
        ToolrestMill mill = new ToolrestMill();
        int[] before = new int[4];
        int[] tellings = {15, -15, 0, 15, 15, -15, -15, 1};
        for (int telling : tellings) {
            for (int offset = 0; offset < 4; offset++) {
                int x = offset % 2 == 0 ? telling : -telling;
                check.due("offset " + offset, mill.setOffset(offset, x, 7, -7), before[offset]);
                before[offset] = x;
            }
        }
    }

    /** The greatest and the least offset bring the terms back into the space, in each of the three numbers. */
    private static void offsetsAreUsedWhole() {
        check.sentence("to the place a, b, c, plus the offset if places are absolute");
        for (int offset = 0; offset < 4; offset++) {
            ToolrestMill most = new ToolrestMill();
            most.setOffset(offset, 15, 15, 15);
            Check.ran(most, "o " + offset + ",g 0 -15 -15,g -15 -4 -6");
            check.due("offset 15", Check.place(most) + " " + most.alarm(), "0 11 9 -");
            ToolrestMill least = new ToolrestMill();
            least.setOffset(offset, -15, -15, -15);
            Check.ran(least, "o " + offset + ",g 30 26 24");
            check.due("offset -15", Check.place(least) + " " + least.alarm(), "15 11 9 -");
            Check.ran(least, "g 15 15 15");
            check.due("offset -15", Check.place(least) + " " + least.alarm(), "0 0 0 -");
            Check.ran(least, "g 14 15 15");
            check.due("one less", least.alarm(), 'l');
        }
    }

    /** Promise 5. */
    private static void kindsThereAre() {
        check.sentence("'g', 'l', 'd', 'p', 't', 's', 'f', 'm', 'o', 'v', 'x', 'r', 'i', 'e' or 'q'");
        for (int sign = 0; sign < 65536; sign++) {
            char kind = (char) sign;
            Class<?> thrown = Check.thrownBy(() -> new ToolrestMill().addBlock(kind, 0, 0, 0));
            check.due("kind " + sign + " throws", thrown, KINDS.indexOf(kind) >= 0 ? null : ARGUMENT);
        }
    }

    private static void termsThereAre() {
        check.sentence("A term is a number from -50 to 50, or a variable, told as 100 plus its number, 0 to 7");
        for (char kind : KINDS.toCharArray()) {
            for (int term : new int[] {-50, -49, 0, 49, 50, 100, 101, 106, 107}) {
                check.due(kind + " a " + term, new ToolrestMill().addBlock(kind, term, 0, 0), 0);
                check.due(kind + " b " + term, new ToolrestMill().addBlock(kind, 0, term, 0), 0);
                check.due(kind + " c " + term, new ToolrestMill().addBlock(kind, 0, 0, term), 0);
                check.due(kind + " all " + term, new ToolrestMill().addBlock(kind, term, term, term), 0);
            }
            int[] none = {-51, 51, 99, 108, -100, -107, 150, 200, 356, 65536, Integer.MIN_VALUE, Integer.MIN_VALUE + 100,
                Integer.MAX_VALUE};
            for (int term : none) {
                check.dueThrow(kind + " a " + term, ARGUMENT, () -> new ToolrestMill().addBlock(kind, term, 0, 0));
                check.dueThrow(kind + " b " + term, ARGUMENT, () -> new ToolrestMill().addBlock(kind, 0, term, 0));
                check.dueThrow(kind + " c " + term, ARGUMENT, () -> new ToolrestMill().addBlock(kind, 0, 0, term));
            }
        }
        for (int number = -300; number <= 300; number++) {
            int term = number;
            boolean isTerm = term >= -50 && term <= 50 || term >= 100 && term <= 107;
            Class<?> thrown = Check.thrownBy(() -> new ToolrestMill().addBlock('v', 0, term, 0));
            check.due("term " + term + " throws", thrown, isTerm ? null : ARGUMENT);
        }
        check.sentence("terms that have no meaning are told, too");
        check.dueThrow("q", ARGUMENT, () -> new ToolrestMill().addBlock('q', 51, 0, 0));
        check.dueThrow("e", ARGUMENT, () -> new ToolrestMill().addBlock('e', 0, -51, 0));
        check.dueThrow("s", ARGUMENT, () -> new ToolrestMill().addBlock('s', 0, 0, 108));
    }

    private static void numbersOfBlocks() {
        check.sentence("Returns the number of the block");
        for (char kind : KINDS.toCharArray()) {
            ToolrestMill mill = new ToolrestMill();
            for (int block = 0; block < 64; block++) {
                check.due(kind + " as block " + block, mill.addBlock(kind, 1, 1, 1), block);
            }
        }
    }

    private static ToolrestMill full() {
        ToolrestMill mill = new ToolrestMill();
        for (int block = 0; block < 64; block++) {
            mill.addBlock('v', 0, 100, 1);
        }
        return mill;
    }

    private static void fullProgram() {
        check.sentence("Throws IllegalStateException if there are 64 blocks");
        for (char kind : KINDS.toCharArray()) {
            check.dueThrow(kind + " behind 64", STATE, () -> full().addBlock(kind, 0, 0, 0));
            ToolrestMill mill = full();
            mill.dropBlock();
            check.due(kind + " behind 63", mill.addBlock(kind, 0, 0, 0), 63);
            check.dueThrow(kind + " behind 64 again", STATE, () -> mill.addBlock(kind, 0, 0, 0));
        }
        ToolrestMill mill = full();
        check.dueThrow("a block more", STATE, () -> mill.addBlock('q', 0, 0, 0));
        check.due("64 are carried out", mill.run(100), 64);
        check.due("next", mill.next(), 64);
        check.due("left", mill.dropBlock(), 63);
    }

    private static void severalExceptionsOfAddBlock() {
        check.sentence("If several exceptions apply, the one that is documented first is thrown (addBlock)");
        check.dueThrow("no such kind, full", ARGUMENT, () -> full().addBlock('z', 0, 0, 0));
        check.dueThrow("no such a, full", ARGUMENT, () -> full().addBlock('g', 51, 0, 0));
        check.dueThrow("no such b, full", ARGUMENT, () -> full().addBlock('g', 0, -51, 0));
        check.dueThrow("no such c, full", ARGUMENT, () -> full().addBlock('g', 0, 0, 108));
    }

    /** Promise 6. */
    private static void noBlocks() {
        check.sentence("Throws IllegalStateException if there are none");
        ToolrestMill mill = new ToolrestMill();
        check.dueThrow("at first", STATE, mill::dropBlock);
        check.due("it changed nothing", mill.addBlock('q', 0, 0, 0), 0);
        check.due("the only one", mill.dropBlock(), 0);
        check.dueThrow("behind the only one", STATE, mill::dropBlock);
        check.due("it changed nothing again", mill.addBlock('q', 0, 0, 0), 0);
        check.sentence("Returns the number of blocks that are left");
        ToolrestMill full = full();
        for (int left = 63; left >= 0; left--) {
            check.due("left", full.dropBlock(), left);
        }
        check.dueThrow("none left", STATE, full::dropBlock);
    }

    private static void lastBlock() {
        check.sentence("Takes the last block away");
        ToolrestMill mill = Check.program("v 0 1 0", "v 1 1 0", "v 2 1 0");
        mill.dropBlock();
        mill.run(100);
        check.due("variables", mill.variable(0) + " " + mill.variable(1) + " " + mill.variable(2), "1 1 0");
        mill.addBlock('v', 3, 1, 0);
        mill.run(100);
        check.due("another one in its place", mill.variable(2) + " " + mill.variable(3), "0 1");
    }

    private static boolean isClosed(String kinds) {
        ToolrestMill mill = new ToolrestMill();
        for (char kind : kinds.toCharArray()) {
            mill.addBlock(kind, 1, 0, 0);
        }
        return mill.isClosed();
    }

    /** Promise 7. */
    private static void closedPrograms() {
        check.sentence("a program is closed if each 'e' closes a part, each part is closed");
        for (String kinds : new String[] {"", "q", "re", "ie", "rere", "reie", "rieqe", "vrvev", "gldptsfmovxq"}) {
            check.due("closed: " + kinds, isClosed(kinds), true);
        }
        ToolrestMill mill = Check.program("r 1", "e");
        check.due("closed", mill.isClosed(), true);
        check.due("carried out", mill.run(100), 2);
        check.due("closed at the end", mill.isClosed(), true);
    }

    private static void openPrograms() {
        check.sentence("a program is closed if each 'e' closes a part, each part is closed");
        for (String kinds : new String[] {"r", "i", "e", "er", "ei", "ree", "iee", "rre", "rie", "eer", "err", "reer", "ere"}) {
            check.due("closed: " + kinds, isClosed(kinds), false);
            ToolrestMill mill = new ToolrestMill();
            for (char kind : kinds.toCharArray()) {
                mill.addBlock(kind, 1, 0, 0);
            }
            check.dueThrow("run of " + kinds, STATE, () -> mill.run(1));
        }
        check.sentence("'e' closes the one that was opened last");
        ToolrestMill mill = Check.program("r 2", "i 0 0", "v 0 100 1", "e", "v 1 101 1", "e");
        mill.run(100);
        check.due("the 'i' by the first, the 'r' by the second", mill.variable(0) + " " + mill.variable(1), "0 2");
        ToolrestMill again = Check.program("i 0 0", "e", "r 3", "e");
        check.due("parts behind one another", again.run(100) + " " + again.next(), "5 4");
    }

    private static void threeOpenAtOnce() {
        check.sentence("at most 3 are open at once");
        for (String opening : new String[] {"rrr", "iii", "rir", "irr", "rri"}) {
            check.due("three: " + opening, isClosed(opening + "eee"), true);
            check.due("three, a part more within: " + opening, isClosed(opening + "eree" + "e"), true);
            check.due("four r: " + opening, isClosed(opening + "reeee"), false);
            check.due("four i: " + opening, isClosed(opening + "ieeee"), false);
            check.due("four behind closed ones: " + opening, isClosed("rereiere" + opening + "reeee"), false);
            check.due("four, closed ones behind: " + opening, isClosed(opening + "reeeere"), false);
        }
        check.due("twice three", isClosed("rrreee" + "iiieee"), true);
        check.due("many, one behind the other", isClosed("re".repeat(32)), true);
        ToolrestMill mill = Check.program("r 1", "r 1", "r 1", "r 1", "e", "e", "e", "e");
        check.dueThrow("run with four", STATE, () -> mill.run(1));
    }

    private static void longestParts() {
        check.sentence("A program has at most 64 blocks (a part over all of them)");
        ToolrestMill mill = Check.program("r 2");
        for (int i = 0; i < 62; i++) {
            mill.addBlock('v', 0, 100, 1);
        }
        mill.addBlock('e', 0, 0, 0);
        check.due("the first call", mill.run(100), 100);
        check.due("the second one", mill.run(100), 1 + 2 * 63 - 100);
        check.due("over", mill.isOver() + " " + mill.next() + " " + mill.variable(0), "true 64 50");
        mill.dropBlock();
        check.due("without the 'e'", mill.isClosed(), false);
        mill.addBlock('e', 0, 0, 0);
        check.due("with it again", mill.isClosed(), true);
    }

    /** A run with all that begins anew behind it, at an alarm. */
    private static ToolrestMill midway() {
        ToolrestMill mill = Check.withEnds("v 0 50 50", "o 1", "t 0 1", "s 1", "f 50", "m 1", "l 3 3 -5", "r 2", "l 0 0 0", "e",
                "t 0 0", "q");
        mill.run(100);
        check.due("midway", mill.alarm() + " " + mill.done() + " " + mill.variable(0) + " " + (mill.stock() < 1152), "t 12 50 true");
        return mill;
    }

    private static void begun(String what, ToolrestMill mill, boolean isEmpty) {
        check.due(what, Check.place(mill) + " " + mill.alarm() + " " + mill.next() + " " + mill.done() + " " + mill.cutter()
                + " " + mill.variable(0) + " " + mill.used(0, 1) + " " + mill.stock() + " " + mill.checksum() + " "
                + mill.timeBits() + " " + mill.isOver(), "0 0 9 - 0 0 -1 0 0 1152 510271680 0 " + isEmpty);
        check.due(what + ", run again", mill.run(1) + " " + mill.variable(0), isEmpty ? "0 0" : "1 50");
        mill.run(100);
        check.due(what + ", alarm again", mill.alarm() + " " + mill.done(), isEmpty ? "- 0" : "t 12");
    }

    private static void tellingBeginsAnew() {
        check.sentence("When a cutter, a block, an offset or a fixture is told, the run begins anew");
        ToolrestMill mill = midway();
        mill.putCutter(2, 3, 'v', 0, 1);
        begun("another cutter", mill, false);
        mill = midway();
        mill.setFixture(15, 11, 0, true);
        begun("a fixture", mill, false);
        mill = midway();
        mill.setOffset(3, 15, 15, 15);
        begun("an offset", mill, false);
        mill = midway();
        mill.addBlock('q', 0, 0, 0);
        begun("a block", mill, false);
        check.sentence("When a block is taken away, the run begins anew, too");
        mill = midway();
        mill.dropBlock();
        begun("a block taken away", mill, false);
        mill = midway();
        for (int i = 0; i < 12; i++) {
            mill.dropBlock();
        }
        begun("all blocks taken away", mill, true);
        check.sentence("and also if what is told is as it was");
        mill = midway();
        mill.putCutter(0, 1, 'e', 1, 999);
        begun("the same cutter", mill, false);
        mill = midway();
        mill.setFixture(0, 0, 0, false);
        begun("no fixture, as before", mill, false);
        mill = midway();
        mill.setOffset(1, 0, 0, 0);
        begun("the same offset", mill, false);
    }
}
