/** Promises 1 to 7: a new mill, cutters, fixtures, offsets and blocks. */
public final class SetupTest {
    private static final Class<IndexOutOfBoundsException> BOUNDS = IndexOutOfBoundsException.class;
    private static final Class<IllegalArgumentException> ARGUMENT = IllegalArgumentException.class;
    private static final Class<UnsupportedOperationException> UNSUPPORTED = UnsupportedOperationException.class;
    private static final Class<IllegalStateException> STATE = IllegalStateException.class;

    private static final Check check = new Check();

    public static void main(String[] args) {
        newMill();
        putCutter();
        putCutterThrows();
        setFixture();
        setOffset();
        addBlock();
        addBlockThrows();
        dropBlock();
        isClosed();
        tellingBeginsAnew();
        throwingChangesNothing();
        check.end();
    }

    /** Promise 1. */
    private static void newMill() {
        ToolrestMill mill = new ToolrestMill();
        check.due("state of a new mill", Check.state(mill), "true - true 0 0 -1 v0 v0 v0 v0 v0 v0 v0 v0 @0 @0 @9"
                + " uNoSuchElementException".repeat(12) + " 1152 510271680 0.0 0 0.0 true ArithmeticException");
        for (int z = 0; z < 6; z++) {
            ToolrestMill layer = new ToolrestMill();
            for (int column = 0; column < 192; column++) {
                check.due("height", layer.height(column % 16, column / 16), 6);
                check.due("has", layer.has(column % 16, column / 16, z), true);
            }
        }
        check.dueThrow("dropBlock", STATE, mill::dropBlock);
        ToolrestMill other = new ToolrestMill();
        other.putCutter(2, 0, 'e', 1, 1);
        check.dueThrow("another mill's cutter", java.util.NoSuchElementException.class, () -> mill.used(2, 0));
    }

    /** Promise 2. */
    private static void putCutter() {
        ToolrestMill mill = new ToolrestMill();
        check.due("first in 0", mill.putCutter(0, 3, 'e', 0, 1), 1);
        check.due("second in 0", mill.putCutter(0, 0, 'e', 3, 999), 2);
        check.due("replaced in 0", mill.putCutter(0, 3, 'e', 1, 10), 2);
        check.due("first in 1", mill.putCutter(1, 0, 'b', 2, 5), 1);
        check.due("first in 2", mill.putCutter(2, 0, 'b', 2, 5), 1);
        check.due("second in 2", mill.putCutter(2, 3, 'v', 2, 5), 2);
        check.due("third in 2", mill.putCutter(2, 1, 'e', 2, 5), 3);
        check.due("fourth in 2", mill.putCutter(2, 2, 'e', 2, 5), 4);
        check.due("third in 0", mill.putCutter(0, 1, 'e', 2, 5), 3);

        Check.add(mill, "t 0 3", "s 1", "l 0 0 5");
        mill.run(100);
        check.due("the replaced one cuts with its radius", mill.stock(), 1152 - 3);
        mill.putCutter(0, 3, 'e', 0, 10);
        mill.run(100);
        check.due("the one put last cuts", mill.stock(), 1152 - 1);
    }

    private static void putCutterThrows() {
        ToolrestMill mill = new ToolrestMill();
        check.dueThrow("rack 3", BOUNDS, () -> mill.putCutter(3, 0, 'q', 9, 0));
        check.dueThrow("rack -1", BOUNDS, () -> mill.putCutter(-1, 0, 'e', 1, 1));
        check.dueThrow("place 4", BOUNDS, () -> mill.putCutter(0, 4, 'b', 1, 1));
        check.dueThrow("place -1", BOUNDS, () -> mill.putCutter(0, -1, 'e', 1, 1));
        check.dueThrow("least rack", BOUNDS, () -> mill.putCutter(Integer.MIN_VALUE, Integer.MAX_VALUE, 'e', 1, 1));
        check.dueThrow("shape q", ARGUMENT, () -> mill.putCutter(0, 0, 'q', 1, 1));
        check.dueThrow("shape E", ARGUMENT, () -> mill.putCutter(2, 0, 'E', 1, 1));
        check.dueThrow("shape 0", ARGUMENT, () -> mill.putCutter(2, 0, (char) 0, 1, 1));
        check.dueThrow("shape 357", ARGUMENT, () -> mill.putCutter(2, 0, (char) ('e' + 256), 1, 1));
        check.dueThrow("radius -1", ARGUMENT, () -> mill.putCutter(2, 0, 'e', -1, 1));
        check.dueThrow("radius 4", ARGUMENT, () -> mill.putCutter(0, 0, 'b', 4, 1));
        check.dueThrow("life 0", ARGUMENT, () -> mill.putCutter(1, 0, 'e', 1, 0));
        check.dueThrow("life 1000", ARGUMENT, () -> mill.putCutter(2, 0, 'e', 1, 1000));
        check.dueThrow("ball in 0", UNSUPPORTED, () -> mill.putCutter(0, 0, 'b', 1, 1));
        check.dueThrow("point in 0", UNSUPPORTED, () -> mill.putCutter(0, 0, 'v', 1, 1));
        check.dueThrow("end in 1", UNSUPPORTED, () -> mill.putCutter(1, 0, 'e', 1, 1));
        check.dueThrow("point in 1", UNSUPPORTED, () -> mill.putCutter(1, 0, 'v', 1, 1));
        check.due("none was put", mill.putCutter(2, 0, 'v', 3, 999), 1);
        check.due("none was put in 0", mill.putCutter(0, 0, 'e', 3, 999), 1);
        check.due("none was put in 1", mill.putCutter(1, 0, 'b', 0, 1), 1);
    }

    /** Promise 3. */
    private static void setFixture() {
        ToolrestMill mill = new ToolrestMill();
        check.due("none at first", mill.setFixture(0, 0, 0, false), false);
        check.due("none before", mill.setFixture(15, 11, 5, true), false);
        check.due("fixture before", mill.setFixture(15, 11, 5, true), true);
        check.due("a neighbour is none", mill.setFixture(14, 11, 5, false), false);
        check.due("a neighbour above is none", mill.setFixture(15, 11, 4, true), false);
        check.due("still fixture", mill.setFixture(15, 11, 5, false), true);
        check.due("none again", mill.setFixture(15, 11, 5, false), false);
        check.due("the other one still is", mill.setFixture(15, 11, 4, true), true);
        check.due("a fixture is stock", mill.has(15, 11, 4), true);
        check.due("all is stock", mill.stock(), 1152);
        int[][] outside = {{16, 0, 0}, {-1, 0, 0}, {0, 12, 0}, {0, -1, 0}, {0, 0, 6}, {0, 0, -1},
            {Integer.MAX_VALUE, 0, 0}, {0, Integer.MIN_VALUE, 0}, {32, 0, 0}};
        for (int[] cell : outside) {
            check.dueThrow("fixture outside", BOUNDS, () -> mill.setFixture(cell[0], cell[1], cell[2], true));
        }
    }

    /** Promise 4. */
    private static void setOffset() {
        ToolrestMill mill = new ToolrestMill();
        check.due("0 before", mill.setOffset(0, 15, -15, 3), 0);
        check.due("15 before", mill.setOffset(0, -15, 15, 4), 15);
        check.due("another one", mill.setOffset(3, 1, 2, -15), 0);
        check.due("-15 before", mill.setOffset(0, 0, 0, 15), -15);
        check.due("1 before", mill.setOffset(3, 2, 2, 2), 1);
        int[][] wrong = {{4, 0, 0, 0}, {-1, 0, 0, 0}, {0, 16, 0, 0}, {0, -16, 0, 0}, {0, 0, 16, 0}, {0, 0, -16, 0},
            {0, 0, 0, 16}, {0, 0, 0, -16}, {Integer.MAX_VALUE, 0, 0, 0}};
        for (int[] terms : wrong) {
            check.dueThrow("offset", ARGUMENT, () -> mill.setOffset(terms[0], terms[1], terms[2], terms[3]));
        }
        check.due("not changed by them", mill.setOffset(0, 0, 0, 0), 0);
    }

    /** Promise 5. */
    private static void addBlock() {
        ToolrestMill mill = new ToolrestMill();
        String kinds = "gldptsfmovxrieq";
        for (int i = 0; i < kinds.length(); i++) {
            check.due("kind " + kinds.charAt(i), mill.addBlock(kinds.charAt(i), -50, 50, 107), i);
        }
        for (int i = kinds.length(); i < 64; i++) {
            check.due("block", mill.addBlock('v', 100, 107, -50), i);
        }
        check.dueThrow("block 64", STATE, () -> mill.addBlock('v', 0, 0, 0));
        check.dueThrow("no such kind in a full program", ARGUMENT, () -> mill.addBlock('z', 0, 0, 0));
        check.dueThrow("no such term in a full program", ARGUMENT, () -> mill.addBlock('v', 0, 0, 99));
        check.due("left", mill.dropBlock(), 63);
        check.due("the last one again", mill.addBlock('q', 0, 0, 0), 63);
    }

    private static void addBlockThrows() {
        ToolrestMill mill = new ToolrestMill();
        for (char kind : new char[] {'z', 'a', 'G', 0, ' ', (char) ('g' + 256), '-', 'b', 'c', 'w'}) {
            check.dueThrow("kind " + (int) kind, ARGUMENT, () -> mill.addBlock(kind, 0, 0, 0));
        }
        for (int term : new int[] {51, -51, 99, 108, 200, -100, Integer.MIN_VALUE, Integer.MAX_VALUE}) {
            check.dueThrow("a " + term, ARGUMENT, () -> mill.addBlock('g', term, 0, 0));
            check.dueThrow("b " + term, ARGUMENT, () -> mill.addBlock('e', 0, term, 0));
            check.dueThrow("c " + term, ARGUMENT, () -> mill.addBlock('q', 0, 0, term));
        }
        check.due("none was added", mill.addBlock('g', 0, 0, 0), 0);
    }

    /** Promise 6. */
    private static void dropBlock() {
        ToolrestMill mill = Check.program("v 0 1 2", "r 2", "v 1 1 1");
        check.due("left", mill.dropBlock(), 2);
        check.due("left", mill.dropBlock(), 1);
        check.due("closed without the opening block", mill.isClosed(), true);
        check.due("run", mill.run(100), 1);
        check.due("variable", mill.variable(0), 3);
        check.due("left", mill.dropBlock(), 0);
        check.due("over", mill.isOver(), true);
        check.dueThrow("none left", STATE, mill::dropBlock);
        check.due("number of the next one", mill.addBlock('q', 0, 0, 0), 0);
    }

    /** Promise 7. */
    private static void isClosed() {
        String[] closed = {"", "g", "r,e", "i,e", "r,i,r,e,e,e", "r,e,i,e,r,e,i,e", "r,i,e,r,e,e", "r,r,r,e,r,e,e,e"};
        String[] open = {"r", "i", "e", "r,e,e", "e,r", "e,r,e", "r,i,e", "r,r,r,r,e,e,e,e", "i,i,i,i,e,e,e,e", "r,e,r",
            "e,e,r,r"};
        for (String program : closed) {
            check.due("closed: " + program, closedness(program), true);
        }
        for (String program : open) {
            check.due("closed: " + program, closedness(program), false);
        }
        ToolrestMill mill = Check.program("r 1", "e", "e");
        check.due("one e too many", mill.isClosed(), false);
        mill.dropBlock();
        check.due("dropped", mill.isClosed(), true);
        mill.dropBlock();
        check.due("opened again", mill.isClosed(), false);
        mill.addBlock('e', 0, 0, 0);
        check.due("closed again", mill.isClosed(), true);
        Check.add(mill, "r 1", "r 1", "r 1", "r 1");
        check.due("four open", mill.isClosed(), false);
        mill.dropBlock();
        Check.add(mill, "e", "e", "e");
        check.due("three closed", mill.isClosed(), true);
    }

    private static boolean closedness(String program) {
        return program.isEmpty() ? new ToolrestMill().isClosed() : Check.program(program.split(",")).isClosed();
    }

    private static ToolrestMill inMidRun() {
        ToolrestMill mill = Check.withEnds("v 0 7 7", "t 0 1", "s 1", "f 5", "m 1", "l 3 3 -5", "t 0 0", "q");
        mill.run(100);
        return mill;
    }

    /** Also if what is told is as it was. */
    private static void tellingBeginsAnew() {
        String begun = "true - false 0 0 -1 v0 v0 v0 v0 v0 v0 v0 v0 @0 @0 @9 u0 u0"
                + " uNoSuchElementException".repeat(10) + " 1152 510271680 0.0 0 0.0 true 0.0";
        ToolrestMill mill = inMidRun();
        check.due("in the run", mill.alarm() + " " + mill.done() + " " + mill.stock() + " " + mill.used(0, 1), "t 6 1139 13");
        mill.putCutter(0, 1, 'e', 1, 999);
        check.due("a cutter begins anew", Check.state(mill), begun);
        mill = inMidRun();
        mill.setFixture(1, 1, 1, false);
        check.due("a fixture begins anew", Check.state(mill), begun);
        mill = inMidRun();
        mill.setOffset(2, 0, 0, 0);
        check.due("an offset begins anew", Check.state(mill), begun);
        mill = inMidRun();
        mill.addBlock('q', 0, 0, 0);
        check.due("a block begins anew", Check.state(mill), begun);
        mill = inMidRun();
        mill.dropBlock();
        check.due("a dropped block begins anew", Check.state(mill), begun);
        mill = inMidRun();
        check.due("reset", mill.reset(), 6);
        check.due("reset begins anew", Check.state(mill), begun);
        mill.run(6);
        check.due("the same run again", mill.stock() + " " + mill.used(0, 1), "1139 13");
    }

    private static void throwingChangesNothing() {
        ToolrestMill mill = inMidRun();
        String before = Check.state(mill);
        Check.thrownBy(() -> mill.putCutter(0, 4, 'e', 1, 1));
        Check.thrownBy(() -> mill.putCutter(0, 1, 'e', 1, 0));
        Check.thrownBy(() -> mill.putCutter(0, 1, 'b', 1, 1));
        Check.thrownBy(() -> mill.setFixture(0, 0, 6, true));
        Check.thrownBy(() -> mill.setOffset(0, 0, 0, 16));
        Check.thrownBy(() -> mill.addBlock('z', 0, 0, 0));
        Check.thrownBy(() -> mill.addBlock('g', 0, 0, 51));
        Check.thrownBy(() -> mill.run(0));
        Check.thrownBy(() -> mill.run(101));
        Check.thrownBy(() -> mill.variable(-1));
        Check.thrownBy(() -> mill.at(-1));
        Check.thrownBy(() -> mill.used(0, 3));
        Check.thrownBy(() -> mill.has(0, 0, -1));
        Check.thrownBy(() -> mill.hasAnew(0, 0, -1));
        Check.thrownBy(() -> mill.height(-1, 0));
        check.due("state behind exceptions", Check.state(mill), before);
        for (int i = 8; i < 64; i++) {
            mill.addBlock('q', 0, 0, 0);
        }
        mill.run(100);
        String full = Check.state(mill);
        Check.thrownBy(() -> mill.addBlock('q', 0, 0, 0));
        check.due("state behind a full program", Check.state(mill), full);
    }
}
