import java.util.ArrayList;
import java.util.List;
import java.util.NoSuchElementException;

/**
 * "A method that throws an exception changes nothing": each refused call is put to a mill in each of several states, and
 * its answers to a long row of calls behind it are those of a twin to which the call was not put.
 */
public final class RefusedCallsTest {
    private interface Maker {
        ToolrestMill make();
    }

    private interface Put {
        Object to(ToolrestMill mill);
    }

    private record State(String name, Maker maker) { }

    private record Refused(String call, Class<? extends RuntimeException> want, Put put) { }

    private static final Class<IndexOutOfBoundsException> BOUNDS = IndexOutOfBoundsException.class;
    private static final Class<IllegalArgumentException> ARGUMENT = IllegalArgumentException.class;
    private static final Class<UnsupportedOperationException> UNSUPPORTED = UnsupportedOperationException.class;
    private static final Class<IllegalStateException> STATE = IllegalStateException.class;
    private static final Class<NoSuchElementException> NONE_THERE = NoSuchElementException.class;
    private static final Class<ArithmeticException> ARITHMETIC = ArithmeticException.class;

    private static final Check check = new Check();

    public static void main(String[] args) {
        List<State> states = states();
        for (Refused refused : refusedAlways()) {
            check.sentence("A method that throws an exception changes nothing (" + refused.call + ")");
            for (State state : states) {
                changesNothing(state, refused);
            }
        }
        refusedInStates();
        severalRefusedCalls(states);
        check.end();
    }

    private static ToolrestMill furnished() {
        ToolrestMill mill = new ToolrestMill();
        mill.putCutter(0, 0, 'e', 0, 999);
        mill.putCutter(0, 1, 'e', 1, 20);
        mill.putCutter(1, 0, 'b', 2, 999);
        mill.putCutter(2, 0, 'v', 2, 999);
        mill.setOffset(0, 1, 2, 1);
        mill.setOffset(3, -1, -2, -1);
        mill.setFixture(9, 9, 2, true);
        return mill;
    }

    private static ToolrestMill program() {
        return Check.add(furnished(), "v 2 3 4", "t 0 1", "s 1", "f 7", "l 4 4 3", "q", "r 3", "v 0 100 2", "l 100 4 4", "e",
                "o 3", "m 1", "l 1 1 0", "t 2 0");
    }

    private static ToolrestMill ranFor(ToolrestMill mill, int calls) {
        for (int i = 0; i < calls; i++) {
            mill.run(100);
        }
        return mill;
    }

    private static ToolrestMill full() {
        ToolrestMill mill = program();
        for (int block = 14; block < 64; block++) {
            mill.addBlock('v', 1, 101, 1);
        }
        return mill;
    }

    private static List<State> states() {
        List<State> states = new ArrayList<>();
        states.add(new State("furnished", RefusedCallsTest::furnished));
        states.add(new State("begun", RefusedCallsTest::program));
        states.add(new State("at a stop", () -> ranFor(program(), 1)));
        states.add(new State("at an alarm", () -> ranFor(program(), 2)));
        states.add(new State("over", () -> ranFor(Check.add(furnished(), "t 0 0", "s 1", "l 3 3 3"), 1)));
        states.add(new State("open", () -> Check.add(program(), "r 2", "i 1 0", "e")));
        states.add(new State("full", () -> ranFor(full(), 1)));
        return states;
    }

    private static void addPutCutter(List<Refused> all) {
        int[][] noPlaces = {{-1, 0}, {3, 0}, {0, -1}, {0, 4}, {1, 4}, {2, 4}, {2, -1}, {Integer.MAX_VALUE, 0}, {0, Integer.MIN_VALUE}};
        for (int[] slot : noPlaces) {
            all.add(new Refused("putCutter at " + slot[0] + " " + slot[1], BOUNDS, mill -> mill.putCutter(slot[0], slot[1], 'e', 3, 5)));
        }
        for (int number : new int[] {-1, 4, Integer.MIN_VALUE, Integer.MAX_VALUE}) {
            all.add(new Refused("putCutter, radius " + number, ARGUMENT, mill -> mill.putCutter(0, 0, 'e', number, 5)));
            all.add(new Refused("putCutter, radius " + number, ARGUMENT, mill -> mill.putCutter(0, 3, 'e', number, 5)));
        }
        for (int number : new int[] {0, -1, 1000, Integer.MIN_VALUE, Integer.MAX_VALUE}) {
            all.add(new Refused("putCutter, life " + number, ARGUMENT, mill -> mill.putCutter(0, 0, 'e', 3, number)));
            all.add(new Refused("putCutter, life " + number, ARGUMENT, mill -> mill.putCutter(2, 3, 'v', 3, number)));
        }
        all.add(new Refused("putCutter, shape q", ARGUMENT, mill -> mill.putCutter(0, 1, 'q', 3, 5)));
        all.add(new Refused("putCutter, shape 0", ARGUMENT, mill -> mill.putCutter(2, 0, (char) 0, 3, 5)));
        all.add(new Refused("putCutter, ball into 0", UNSUPPORTED, mill -> mill.putCutter(0, 1, 'b', 3, 5)));
        all.add(new Refused("putCutter, point into 0", UNSUPPORTED, mill -> mill.putCutter(0, 2, 'v', 3, 5)));
        all.add(new Refused("putCutter, end into 1", UNSUPPORTED, mill -> mill.putCutter(1, 0, 'e', 3, 5)));
        all.add(new Refused("putCutter, point into 1", UNSUPPORTED, mill -> mill.putCutter(1, 1, 'v', 3, 5)));
    }

    private static void addCells(List<Refused> all) {
        int[][] noCells = {{-1, 4, 4}, {16, 3, 4}, {4, -1, 4}, {4, 12, 3}, {4, 4, -1}, {4, 4, 6}, {9, 9, 9}, {Integer.MIN_VALUE, 0, 0},
            {0, Integer.MAX_VALUE, 0}, {0, 0, Integer.MIN_VALUE}};
        for (int[] cell : noCells) {
            String of = " of " + cell[0] + " " + cell[1] + " " + cell[2];
            all.add(new Refused("setFixture" + of, BOUNDS, mill -> mill.setFixture(cell[0], cell[1], cell[2], true)));
            all.add(new Refused("setFixture, false" + of, BOUNDS, mill -> mill.setFixture(cell[0], cell[1], cell[2], false)));
            all.add(new Refused("has" + of, BOUNDS, mill -> mill.has(cell[0], cell[1], cell[2])));
            all.add(new Refused("hasAnew" + of, BOUNDS, mill -> mill.hasAnew(cell[0], cell[1], cell[2])));
        }
        for (int[] column : new int[][] {{-1, 4}, {16, 4}, {4, -1}, {4, 12}, {16, 12}, {Integer.MAX_VALUE, Integer.MIN_VALUE}}) {
            all.add(new Refused("height of " + column[0] + " " + column[1], BOUNDS, mill -> mill.height(column[0], column[1])));
        }
    }

    private static void addOffsets(List<Refused> all) {
        int[][] wrong = {{-1, 1, 1, 1}, {4, 1, 1, 1}, {0, 16, 0, 0}, {0, -16, 0, 0}, {0, 0, 16, 0}, {0, 0, -16, 0}, {0, 0, 0, 16},
            {0, 0, 0, -16}, {3, 2, 2, 16}, {3, 2, -16, 2}, {3, 16, 2, 2}, {Integer.MAX_VALUE, 0, 0, 0}, {0, Integer.MIN_VALUE, 0, 0}};
        for (int[] told : wrong) {
            String terms = told[0] + " " + told[1] + " " + told[2] + " " + told[3];
            all.add(new Refused("setOffset " + terms, ARGUMENT, mill -> mill.setOffset(told[0], told[1], told[2], told[3])));
        }
    }

    private static void addBlocks(List<Refused> all) {
        for (char kind : new char[] {'z', 'G', 0, '-', 65535}) {
            all.add(new Refused("addBlock, kind " + (int) kind, ARGUMENT, mill -> mill.addBlock(kind, 0, 0, 0)));
        }
        for (int term : new int[] {-51, 51, 99, 108, Integer.MIN_VALUE, Integer.MAX_VALUE}) {
            all.add(new Refused("addBlock, a " + term, ARGUMENT, mill -> mill.addBlock('v', term, 0, 0)));
            all.add(new Refused("addBlock, b " + term, ARGUMENT, mill -> mill.addBlock('r', 0, term, 0)));
            all.add(new Refused("addBlock, c " + term, ARGUMENT, mill -> mill.addBlock('e', 0, 0, term)));
        }
    }

    private static List<Refused> refusedAlways() {
        List<Refused> all = new ArrayList<>();
        addPutCutter(all);
        addCells(all);
        addOffsets(all);
        addBlocks(all);
        for (int number : new int[] {0, -1, 101, Integer.MIN_VALUE, Integer.MAX_VALUE}) {
            all.add(new Refused("run " + number, ARGUMENT, mill -> mill.run(number)));
        }
        for (int number : new int[] {-1, 8, 100, Integer.MIN_VALUE, Integer.MAX_VALUE}) {
            all.add(new Refused("variable " + number, ARGUMENT, mill -> mill.variable(number)));
        }
        for (int number : new int[] {-1, 3, Integer.MIN_VALUE, Integer.MAX_VALUE}) {
            all.add(new Refused("at " + number, ARGUMENT, mill -> mill.at(number)));
            all.add(new Refused("used, rack " + number, BOUNDS, mill -> mill.used(number, 0)));
        }
        for (int number : new int[] {-1, 4, Integer.MIN_VALUE, Integer.MAX_VALUE}) {
            all.add(new Refused("used, place " + number, BOUNDS, mill -> mill.used(0, number)));
        }
        all.add(new Refused("used of an empty place", NONE_THERE, mill -> mill.used(0, 2)));
        all.add(new Refused("used of an empty place", NONE_THERE, mill -> mill.used(2, 3)));
        return all;
    }

    /** Calls that tell what there is: the state, the run, the program, the cutters, the offsets and the fixtures. */
    private static String behind(ToolrestMill mill) {
        StringBuilder text = new StringBuilder();
        text.append(Check.state(mill));
        for (int i = 0; i < 2; i++) {
            text.append(" run ").append(Check.thrownBy(() -> mill.run(100))).append(' ').append(Check.state(mill));
        }
        text.append(" reset ").append(mill.reset());
        text.append(" run ").append(Check.thrownBy(() -> mill.run(4))).append(' ').append(Check.state(mill));
        dropAll(mill);
        for (int offset = 0; offset < 4; offset++) {
            Check.ran(mill, "o " + offset + ",g 4 5 7,s 0,t " + offset % 3 + " 0,s 1,d 7 3,p 8 2 5");
            text.append(' ').append(Check.place(mill)).append(' ').append(mill.alarm()).append(' ').append(mill.done());
            text.append(' ').append(mill.checksum()).append(' ').append(mill.timeBits());
            dropAll(mill);
        }
        for (int[] cell : new int[][] {{15, 3, 4}, {0, 4, 4}, {4, 11, 3}, {4, 0, 4}, {4, 4, 5}, {4, 4, 0}, {9, 9, 5}, {9, 9, 2}}) {
            text.append(" fixture ").append(mill.setFixture(cell[0], cell[1], cell[2], false));
        }
        for (int offset = 0; offset < 4; offset++) {
            text.append(" offset ").append(mill.setOffset(offset, 0, 0, 0));
        }
        return text.append(" cutters ").append(mill.putCutter(0, 0, 'e', 0, 1)).append(mill.putCutter(1, 0, 'b', 0, 1))
                .append(mill.putCutter(2, 0, 'v', 0, 1)).toString();
    }

    private static void dropAll(ToolrestMill mill) {
        boolean isEmpty = mill.isOver() && mill.next() == 0;
        while (!isEmpty) {
            isEmpty = mill.dropBlock() == 0;
        }
    }

    private static void changesNothing(State state, Refused refused) {
        ToolrestMill mill = state.maker.make();
        check.dueThrow(state.name, refused.want, () -> refused.put.to(mill));
        check.due(state.name + ", behind it", behind(mill), behind(state.maker.make()));
    }

    private static void refusedInStates() {
        check.sentence("A method that throws an exception changes nothing (by the state)");
        State empty = new State("without blocks", RefusedCallsTest::furnished);
        State bare = new State("new", ToolrestMill::new);
        State open = new State("open", () -> Check.add(program(), "r 2"));
        State unopened = new State("not opened", () -> Check.add(program(), "e"));
        State deep = new State("four open", () -> Check.add(program(), "r 1", "r 1", "r 1", "r 1", "e", "e", "e", "e"));
        State full = new State("full", () -> ranFor(full(), 1));
        State fullBegun = new State("full, begun", RefusedCallsTest::full);
        changesNothing(empty, new Refused("dropBlock", STATE, ToolrestMill::dropBlock));
        changesNothing(bare, new Refused("dropBlock", STATE, ToolrestMill::dropBlock));
        changesNothing(bare, new Refused("meanUse", ARITHMETIC, ToolrestMill::meanUse));
        changesNothing(bare, new Refused("used", NONE_THERE, mill -> mill.used(0, 0)));
        for (State state : new State[] {open, unopened, deep}) {
            changesNothing(state, new Refused("run(1)", STATE, mill -> mill.run(1)));
            changesNothing(state, new Refused("run(100)", STATE, mill -> mill.run(100)));
            changesNothing(state, new Refused("run(0)", ARGUMENT, mill -> mill.run(0)));
        }
        for (State state : new State[] {full, fullBegun}) {
            changesNothing(state, new Refused("addBlock q", STATE, mill -> mill.addBlock('q', 0, 0, 0)));
            changesNothing(state, new Refused("addBlock e", STATE, mill -> mill.addBlock('e', 0, 0, 0)));
            changesNothing(state, new Refused("addBlock r", STATE, mill -> mill.addBlock('r', 1, 0, 0)));
            changesNothing(state, new Refused("addBlock z", ARGUMENT, mill -> mill.addBlock('z', 0, 0, 0)));
        }
    }

    private static void severalRefusedCalls(List<State> states) {
        check.sentence("A method that throws an exception changes nothing (one refused call behind another)");
        for (State state : states) {
            ToolrestMill mill = state.maker.make();
            for (Refused refused : refusedAlways()) {
                check.dueThrow(refused.call, refused.want, () -> refused.put.to(mill));
            }
            check.due(state.name, Check.state(mill), Check.state(state.maker.make()));
        }
    }
}
