import java.util.NoSuchElementException;

/** Promises 8 to 17, and the terms on running, at their edges: a test for each sentence that names one. */
public final class RunningEdgesTest {
    private static final Class<IndexOutOfBoundsException> BOUNDS = IndexOutOfBoundsException.class;
    private static final Class<IllegalArgumentException> ARGUMENT = IllegalArgumentException.class;
    private static final Class<IllegalStateException> STATE = IllegalStateException.class;
    private static final Class<NoSuchElementException> NONE_THERE = NoSuchElementException.class;

    private static final Check check = new Check();

    public static void main(String[] args) {
        numberOfBlocksToRun();
        atMostSoMany();
        noBlocksToRun();
        programNotClosed();
        severalExceptionsOfRun();
        beginningOfRun();
        alarmedBlockDoesNothing();
        runStaysAtAlarm();
        overBehindLastBlock();
        termsWhenCarriedOut();
        repeats();
        branches();
        nestedParts();
        stops();
        reset();
        alarmOfLastCall();
        isOver();
        next();
        done();
        numbersOfVariables();
        sumsAreCut();
        numbersOfVariablesInBlocks();
        axes();
        cutter();
        placesOfUses();
        uses();
        severalExceptionsOfUsed();
        lastCallOfAnObject();
        check.end();
    }

    private static ToolrestMill counting(int blocks) {
        ToolrestMill mill = new ToolrestMill();
        for (int i = 0; i < blocks; i++) {
            mill.addBlock('v', 0, 100, 1);
        }
        return mill;
    }

    /** Counts in the variable 0 up to 50, over more than 700 blocks. */
    private static ToolrestMill counting() {
        return Check.program("r 9", "r 9", "r 9", "v 0 100 1", "e", "e", "e");
    }

    /** Promise 8. */
    private static void numberOfBlocksToRun() {
        check.sentence("how many at most, 1 to 100");
        check.dueRange("a long run", 1, 100, ARGUMENT, blocks -> counting().run(blocks));
        check.dueRange("no blocks", 1, 100, ARGUMENT, blocks -> new ToolrestMill().run(blocks));
        check.dueRange("at an alarm", 1, 100, ARGUMENT, blocks -> Check.ran(new ToolrestMill(), "x 9").run(blocks));
        check.dueRange("over", 1, 100, ARGUMENT, blocks -> Check.ran(new ToolrestMill(), "q").run(blocks));
    }

    private static void atMostSoMany() {
        check.sentence("Returns how many were carried out");
        for (int blocks = 1; blocks <= 100; blocks++) {
            ToolrestMill mill = counting();
            check.due("run(" + blocks + ")", mill.run(blocks) + " " + mill.done() + " " + mill.alarm(), blocks + " " + blocks + " -");
        }
        for (int blocks = 1; blocks <= 64; blocks++) {
            ToolrestMill fewer = counting(blocks);
            check.due("all but one", fewer.run(blocks == 1 ? 1 : blocks - 1), blocks == 1 ? 1 : blocks - 1);
            check.due("the last one", fewer.run(100), blocks == 1 ? 0 : 1);
            check.due("as many as there are", counting(blocks).run(blocks), blocks);
            check.due("one more than there are", counting(blocks).run(blocks + 1), blocks);
            check.due("none behind the last one", Check.ran(counting(blocks - 1), "v 0 100 1").run(1), 0);
        }
        ToolrestMill mill = Check.program("v 0 1 0", "v 1 1 0", "s 2");
        check.due("up to an alarm", mill.run(3) + " " + mill.alarm(), "2 n");
        check.due("at an alarm", mill.run(100) + " " + mill.alarm(), "0 n");
    }

    private static void noBlocksToRun() {
        check.sentence("Runs blocks (no blocks)");
        ToolrestMill mill = new ToolrestMill();
        check.due("run(1)", mill.run(1), 0);
        check.due("run(100)", mill.run(100), 0);
        check.due("state", mill.alarm() + " " + mill.isOver() + " " + mill.next() + " " + mill.done(), "- true 0 0");
        Check.add(mill, "q");
        check.due("with one block", mill.run(100) + " " + mill.isOver(), "1 true");
        mill.dropBlock();
        check.due("without it", mill.run(100) + " " + mill.isOver() + " " + mill.done(), "0 true 0");
    }

    private static void programNotClosed() {
        check.sentence("Throws IllegalStateException if the program is not closed");
        for (String blocks : new String[] {"r 1", "i 1 0", "e", "v 0 1 0,r 1", "v 0 1 0,e", "r 1,e,e", "r 1,r 1,e", "q,e"}) {
            ToolrestMill mill = Check.program(blocks.split(","));
            check.dueThrow("run(1) of " + blocks, STATE, () -> mill.run(1));
            check.dueThrow("run(100) of " + blocks, STATE, () -> mill.run(100));
            check.due("nothing was done", mill.done() + " " + mill.next() + " " + mill.alarm() + " " + mill.isOver()
                    + " " + mill.variable(0), "0 0 - false 0");
            mill.dropBlock();
        }
    }

    private static void severalExceptionsOfRun() {
        check.sentence("If several exceptions apply, the one that is documented first is thrown (run)");
        for (int blocks : new int[] {0, -1, 101, Integer.MIN_VALUE, Integer.MAX_VALUE}) {
            check.dueThrow("out of range, not closed", ARGUMENT, () -> Check.program("r 1").run(blocks));
            check.dueThrow("out of range, not opened", ARGUMENT, () -> Check.program("e").run(blocks));
        }
        check.dueThrow("1, not closed", STATE, () -> Check.program("r 1").run(1));
        check.dueThrow("100, not closed", STATE, () -> Check.program("r 1").run(100));
    }

    private static void beginningOfRun() {
        check.sentence("A run begins with the block 0");
        check.due("next", counting(3).next(), 0);
        check.sentence("all variables 0");
        for (int variable = 0; variable < 8; variable++) {
            check.due("variable", counting(3).variable(variable), 0);
            ToolrestMill mill = Check.program("v " + variable + " " + (100 + variable) + " 7");
            mill.run(1);
            mill.reset();
            mill.run(1);
            check.due("added to 0 again", mill.variable(variable), 7);
        }
        check.sentence("absolute places, the offset 0");
        ToolrestMill moves = Check.program("g 2 2 2", "g 2 2 2", "m 1", "o 1");
        moves.setOffset(0, 1, 2, 3);
        moves.setOffset(1, 9, 9, 4);
        for (int time = 0; time < 2; time++) {
            moves.run(2);
            check.due("place", Check.place(moves), "3 4 5");
            moves.run(2);
            moves.reset();
        }
        check.sentence("no cutter");
        ToolrestMill tools = Check.withEnds("x 0");
        tools.run(1);
        check.due("a probe", tools.cutter() + " " + tools.alarm(), "-1 s");
        check.sentence("the spindle off");
        ToolrestMill spindle = Check.withEnds("t 0 0", "l 0 0 5", "s 1");
        spindle.run(100);
        check.due("a cut", spindle.alarm() + " " + spindle.next(), "s 1");
        ToolrestMill again = Check.withEnds("t 0 0", "s 1");
        for (int time = 0; time < 2; time++) {
            again.run(100);
            check.due("a change is no alarm", again.alarm() + " " + again.next(), "- 2");
            again.reset();
        }
        check.sentence("the feed 10");
        ToolrestMill feed = Check.withEnds("t 0 0", "s 1", "l 1 0 9", "f 50");
        for (int time = 0; time < 2; time++) {
            feed.run(100);
            check.due("time", feed.time(), 1f / 10f);
            feed.reset();
        }
    }

    /** One program for each alarm; the block that gives it is the last one. */
    private static ToolrestMill at(char alarm) {
        switch (alarm) {
            case 'n':
                return Check.withEnds("v 0 5 0", "t 0 0", "s 1", "l 3 0 5", "f 0");
            case 't':
                return Check.withEnds("v 0 5 0", "t 0 0", "s 1", "l 3 0 5", "t 0 1");
            case 'w':
                ToolrestMill worn = new ToolrestMill();
                worn.putCutter(0, 0, 'e', 0, 1);
                return Check.add(worn, "v 0 5 0", "t 0 0", "s 1", "l 3 0 5", "l 4 0 5");
            case 's':
                return Check.withEnds("v 0 5 0", "t 0 0", "s 1", "l 3 0 5", "s 0", "l 4 0 5");
            case 'l':
                return Check.withEnds("v 0 5 0", "t 0 0", "s 1", "l 3 0 5", "l 16 0 5");
            case 'c':
                return Check.withEnds("v 0 5 0", "t 0 0", "s 1", "l 3 0 5", "g 4 0 5");
            default:
                return Check.withEnds("v 0 5 0", "t 0 0", "s 1", "l 3 0 5", "s 0", "t 0 1", "x 0");
        }
    }

    private static void alarmedBlockDoesNothing() {
        check.sentence("A block that gives an alarm does nothing");
        for (char alarm : "ntwslcx".toCharArray()) {
            ToolrestMill mill = at(alarm);
            int blocks = at(alarm).run(100);
            check.due("ahead of it", mill.run(blocks) + " " + mill.alarm(), blocks + " -");
            String before = Check.state(mill);
            check.due("at it", mill.run(1) + " " + mill.alarm(), "0 " + alarm);
            check.due("state at " + alarm, Check.state(mill), before.replaceFirst(" - ", " " + alarm + " "));
        }
    }

    private static void runStaysAtAlarm() {
        check.sentence("the run stays at it");
        for (char alarm : "ntwslcx".toCharArray()) {
            ToolrestMill mill = at(alarm);
            int before = mill.run(100);
            String state = Check.state(mill);
            check.due("alarm", mill.alarm(), alarm);
            check.due("carried out", mill.next() + " " + mill.done() + " " + mill.isOver(), before + " " + before + " false");
            check.due("run(1) again", mill.run(1), 0);
            check.due("run(100) again", mill.run(100), 0);
            check.due("state", Check.state(mill), state);
        }
    }

    private static void overBehindLastBlock() {
        check.sentence("The run is over behind the last block");
        for (int blocks = 1; blocks <= 64; blocks++) {
            ToolrestMill mill = counting(blocks);
            for (int done = 0; done < blocks; done++) {
                check.due("over behind " + done + " of " + blocks, mill.isOver(), false);
                mill.run(1);
            }
            check.due("over behind all " + blocks, mill.isOver() + " " + mill.next() + " " + mill.done(),
                    "true " + blocks + " " + blocks);
        }
    }

    private static void termsWhenCarriedOut() {
        check.sentence("The terms are what they are when the block is carried out");
        ToolrestMill mill = Check.program("v 0 2 0", "r 100", "v 0 9 0", "v 1 101 1", "e", "r 100", "v 0 0 0", "e", "v 107 107 7");
        mill.run(100);
        check.due("repeats are those of the opening block", mill.variable(1), 2);
        check.due("also if the variable is 0 then", mill.variable(0) + " " + mill.variable(7), "7 0");
        check.due("done", mill.done(), 1 + 1 + 2 * 3 + 1 + 9 * 2 + 1);
        ToolrestMill branch = Check.program("v 0 1 0", "i 100 0", "v 0 0 0", "v 1 1 0", "e", "i 100 0", "v 2 1 0", "e");
        branch.run(100);
        check.due("a branch is decided at its opening block", branch.variable(1) + " " + branch.variable(2), "1 0");
        for (int variable = 0; variable < 8; variable++) {
            int term = 100 + variable;
            ToolrestMill terms = Check.program("v " + variable + " 5 0", "g " + term + " " + term + " " + term);
            terms.run(100);
            check.due("variable " + variable, Check.place(terms), "5 5 5");
        }
    }

    private static void ends(String blocks, int carried, int next, int variable) {
        ToolrestMill mill = Check.program(blocks.split(","));
        check.due(blocks, mill.run(100) + " - " + mill.next() + " " + mill.variable(0),
                carried + " " + mill.alarm() + " " + next + " " + variable);
    }

    private static void repeats() {
        check.sentence("'r' carries its part out a times");
        for (int times = 1; times <= 9; times++) {
            ends("r " + times + ",v 0 100 1,e", 1 + 2 * times, 3, times);
            ends("v 1 " + times + " 0,r 101,v 0 100 1,e,v 2 1 0", 3 + 2 * times, 5, times);
            ends("r " + times + ",e", 1 + times, 2, 0);
        }
        check.sentence("'r' carries its part out a times (whatever b and c are)");
        ends("r 2 9 9,v 0 100 1,e", 5, 3, 2);
        ends("r 2 2 -50,v 0 100 1,e 9 9 9", 5, 3, 2);
        ends("r 9 50 50,v 0 100 1,e", 19, 3, 9);
        ends("r 0 -1 -1,v 0 100 1,e", 1, 3, 0);
        ends("r 0 9 9,v 0 100 1,e 9 9 9", 1, 3, 0);
        ends("i 2 1 0,v 0 100 1,e 9 9 9", 3, 3, 1);
        ends("i 2 1 50,v 0 100 1,e -1 0 0", 3, 3, 1);
        check.sentence("otherwise the run goes on behind the 'e' of the part ('r' with 0)");
        ends("r 0,v 0 100 1,e", 1, 3, 0);
        ends("r 0,e", 1, 2, 0);
        ends("r 0,r 9,v 0 100 1,e,e,v 0 100 5", 2, 6, 5);
        check.sentence("an e counts as a block each time it is reached");
        ToolrestMill mill = Check.program("r 2", "v 0 100 1", "e", "v 0 100 10");
        int[] nexts = {1, 2, 1, 2, 3, 4};
        for (int next : nexts) {
            check.due("one block", mill.run(1), 1);
            check.due("goes on with the first block of the part", mill.next(), next);
        }
        check.due("variable", mill.variable(0), 12);
        ToolrestMill empty = Check.program("r 3", "e");
        for (int next : new int[] {1, 1, 1, 2}) {
            empty.run(1);
            check.due("a part without blocks", empty.next(), next);
        }
    }

    private static void branches() {
        check.sentence("'i' carries its part out if a is greater than b");
        ends("i 1 0,v 0 100 1,e", 3, 3, 1);
        ends("i 0 0,v 0 100 1,e", 1, 3, 0);
        ends("i 0 1,v 0 100 1,e", 1, 3, 0);
        ends("i 50 49,v 0 100 1,e", 3, 3, 1);
        ends("i 50 50,v 0 100 1,e", 1, 3, 0);
        ends("i -49 -50,v 0 100 1,e", 3, 3, 1);
        ends("i -50 -50,v 0 100 1,e", 1, 3, 0);
        ends("i -50 50,v 0 100 1,e", 1, 3, 0);
        ends("i 50 -50,v 0 100 1,e", 3, 3, 1);
        ends("i 0 -1,v 0 100 1,e,v 0 100 10", 4, 4, 11);
        ends("i -1 0,v 0 100 1,e,v 0 100 10", 2, 4, 10);
        ends("i 100 101,v 0 100 1,e", 1, 3, 0);
        ends("i 1 0,e", 2, 2, 0);
        ends("i 0 1,e", 1, 2, 0);
        check.sentence("'i' carries its part out (once)");
        ends("i 9 0 9,v 0 100 1,e", 3, 3, 1);
        ToolrestMill mill = Check.program("i 1 0", "v 0 100 1", "e", "q");
        for (int next : new int[] {1, 2, 3, 4}) {
            mill.run(1);
            check.due("next", mill.next(), next);
        }
    }

    private static void nestedParts() {
        check.sentence("as long as the part was not carried out often enough");
        ends("r 2,r 3,v 0 100 1,e,e", 1 + 2 * (1 + 3 * 2 + 1), 5, 6);
        ends("r 2,r 2,r 2,v 0 100 1,e,e,e", 1 + 2 * (1 + 2 * (1 + 2 * 2 + 1) + 1), 7, 8);
        ends("r 2,i 1 0,r 2,v 0 100 1,e,e,e", 1 + 2 * (1 + 1 + 2 * 2 + 1 + 1), 7, 4);
        ends("r 3,i 100 0,v 0 -1 0,e,v 0 100 1,e", 1 + 3 + 5 + 3, 6, 1);
        ends("v 1 0 0,r 3,v 1 101 1,r 101,v 0 100 1,e,e", 2 + 3 * 2 + (1 + 2 + 3) * 2 + 3, 7, 6);
        ends("r 2,r 0,v 0 100 1,e,v 0 100 10,e", 1 + 2 * 3, 6, 20);
        ToolrestMill mill = counting();
        int done = 0;
        for (int call = 0; call < 30; call++) {
            done += mill.run(100);
        }
        check.due("9 times 9 times 9", done + " " + mill.done() + " " + mill.isOver() + " " + mill.variable(0),
                1 + 9 * (1 + 9 * (1 + 9 * 2 + 1) + 1) + " " + done + " true 50");
    }

    private static void stops() {
        check.sentence("'q' is a stop: a call that runs ends behind it");
        ToolrestMill mill = Check.program("q", "q", "v 0 1 0", "q", "v 0 2 0");
        check.due("a first one", mill.run(100) + " " + mill.next() + " " + mill.alarm(), "1 1 -");
        check.due("another one behind it", mill.run(100) + " " + mill.next() + " " + mill.alarm(), "1 2 -");
        check.due("at most as many as to the stop", mill.run(2) + " " + mill.next() + " " + mill.variable(0), "2 4 1");
        check.due("behind it", mill.run(100) + " " + mill.isOver() + " " + mill.variable(0), "1 true 2");
        ToolrestMill ahead = Check.program("v 0 1 0", "q", "v 0 2 0");
        check.due("just ahead of it", ahead.run(1) + " " + ahead.next(), "1 1");
        check.due("the stop alone", ahead.run(1) + " " + ahead.next(), "1 2");
        check.due("behind", ahead.run(1) + " " + ahead.next(), "1 3");
        ToolrestMill last = Check.program("v 0 1 0", "q");
        check.due("as the last one", last.run(100) + " " + last.isOver(), "2 true");
        check.due("over", last.run(100), 0);
        ToolrestMill first = Check.program("q", "v 0 1 0");
        check.due("run(1)", first.run(1) + " " + first.next() + " " + first.variable(0), "1 1 0");
        ToolrestMill part = Check.program("r 2", "q", "e", "v 0 1 0");
        check.due("in a part", part.run(100) + " " + part.next(), "2 2");
        check.due("in a part again", part.run(100) + " " + part.next(), "2 2");
        check.due("behind the part", part.run(100) + " " + part.next(), "2 4");
        ToolrestMill alarmed = Check.program("q", "s 2");
        check.due("ahead of an alarm", alarmed.run(100) + " " + alarmed.alarm(), "1 -");
        check.due("at the alarm behind it", alarmed.run(100) + " " + alarmed.alarm(), "0 n");
    }

    /** Promise 9. */
    private static void reset() {
        check.sentence("Returns how many blocks had been carried out");
        check.due("no blocks", new ToolrestMill().reset(), 0);
        ToolrestMill mill = counting();
        check.due("none yet", mill.reset(), 0);
        mill.run(1);
        check.due("one", mill.reset(), 1);
        check.due("none again", mill.reset(), 0);
        for (int call = 0; call < 7; call++) {
            mill.run(100);
        }
        check.due("more than one call's", mill.reset(), 700);
        ToolrestMill open = Check.program("r 1");
        check.due("an open program", open.reset(), 0);
        check.sentence("Begins the run anew, with all cells as stock again and cutters without use");
        for (char alarm : "ntwslcx".toCharArray()) {
            ToolrestMill alarmed = at(alarm);
            String begun = Check.state(alarmed);
            int done = alarmed.run(100);
            String state = Check.state(alarmed);
            check.due("in the run", state.equals(begun), false);
            check.due("done", alarmed.reset(), done);
            check.due("begun", Check.state(alarmed), begun);
            check.due("none again", alarmed.reset(), 0);
            check.due("the same run", alarmed.run(100), done);
            check.due("the same end", Check.state(alarmed), state);
        }
    }

    /** Promise 10. */
    private static void alarmOfLastCall() {
        check.sentence("or '-' for none, also if there was no such call since the run began");
        check.due("no blocks", new ToolrestMill().alarm(), '-');
        check.due("no call", at('n').alarm(), '-');
        for (char alarm : "ntwslcx".toCharArray()) {
            ToolrestMill mill = at(alarm);
            mill.run(100);
            mill.reset();
            check.due("behind a reset", mill.alarm(), '-');
            mill.run(100);
            mill.setOffset(3, 0, 0, 0);
            check.due("behind an offset", mill.alarm(), '-');
            mill.run(100);
            mill.setFixture(15, 11, 5, false);
            check.due("behind a fixture", mill.alarm(), '-');
            mill.run(100);
            mill.putCutter(1, 0, 'b', 1, 1);
            check.due("behind a cutter", mill.alarm(), '-');
            mill.run(100);
            mill.addBlock('q', 0, 0, 0);
            check.due("behind a block", mill.alarm(), '-');
            mill.run(100);
            mill.dropBlock();
            check.due("behind a block taken away", mill.alarm(), '-');
        }
        check.sentence("Returns the alarm that the last call of run() ended with");
        for (char alarm : "ntwslcx".toCharArray()) {
            ToolrestMill mill = at(alarm);
            int blocks = at(alarm).run(100);
            mill.run(blocks);
            check.due("a call that ends just ahead of it", mill.alarm(), '-');
            mill.run(1);
            check.due("a call that meets it at once", mill.alarm(), alarm);
            check.dueThrow("a call that throws", ARGUMENT, () -> mill.run(101));
            check.due("not ended by it", mill.alarm(), alarm);
            ToolrestMill one = at(alarm);
            one.run(blocks + 1);
            check.due("a call for one block more", one.alarm(), alarm);
        }
        ToolrestMill over = Check.ran(new ToolrestMill(), "q");
        over.run(1);
        check.due("over", over.alarm(), '-');
        check.due("a limit", Check.ran(counting(), "q").alarm(), '-');
    }

    /** Promise 11. */
    private static void isOver() {
        check.sentence("Returns whether the run is over");
        check.due("no blocks", new ToolrestMill().isOver(), true);
        check.due("begun", counting(1).isOver(), false);
        check.due("open", Check.program("r 1").isOver(), false);
        check.due("not opened", Check.program("e").isOver(), false);
        for (char alarm : "ntwslcx".toCharArray()) {
            ToolrestMill mill = at(alarm);
            mill.run(100);
            check.due("at " + alarm + " in the last block", mill.isOver(), false);
        }
        ToolrestMill part = Check.program("r 2", "e");
        for (boolean isOver : new boolean[] {false, false, true}) {
            part.run(1);
            check.due("behind the last 'e'", part.isOver(), isOver);
        }
        check.due("behind a part that is left out", Check.ran(new ToolrestMill(), "i 0 0,e").isOver(), true);
        check.due("behind a stop", Check.ran(new ToolrestMill(), "q").isOver(), true);
        part.reset();
        check.due("behind a reset", part.isOver(), false);
        part.dropBlock();
        part.dropBlock();
        check.due("without blocks again", part.isOver(), true);
    }

    /** Promise 12. */
    private static void next() {
        check.sentence("Returns the number of the block, or that of all blocks if the run is over");
        check.due("no blocks", new ToolrestMill().next(), 0);
        for (int blocks = 1; blocks <= 64; blocks++) {
            ToolrestMill mill = counting(blocks);
            check.due("first", mill.next(), 0);
            mill.run(blocks);
            check.due("all " + blocks, mill.next(), blocks);
            mill.run(1);
            check.due("still all " + blocks, mill.next(), blocks);
        }
        ToolrestMill last = counting(64);
        last.run(63);
        check.due("the last one", last.next(), 63);
        ToolrestMill end = Check.program("i 0 0", "v 0 1 0", "e");
        end.run(1);
        check.due("behind a part that is left out", end.next(), 3);
    }

    /** Promise 13. */
    private static void done() {
        check.sentence("Returns how many blocks were carried out since the run began");
        check.due("no blocks", new ToolrestMill().done(), 0);
        ToolrestMill mill = counting();
        for (int call = 1; call <= 15; call++) {
            mill.run(100);
            check.due("done", mill.done(), 100 * call);
        }
        mill.reset();
        check.due("behind a reset", mill.done(), 0);
        mill.run(7);
        check.due("seven", mill.done(), 7);
        mill.setOffset(0, 0, 0, 0);
        check.due("behind an offset", mill.done(), 0);
        ToolrestMill alarmed = Check.program("v 0 1 0", "s 2");
        alarmed.run(100);
        alarmed.run(100);
        check.due("not the block with the alarm", alarmed.done(), 1);
        check.due("a part that is left out counts once", Check.ran(new ToolrestMill(), "r 0,v 0 1 0,v 0 1 0,e").done(), 1);
    }

    /** Promise 14. */
    private static void numbersOfVariables() {
        check.sentence("the number of the variable, 0 to 7");
        check.dueRange("variable", 0, 7, ARGUMENT, number -> new ToolrestMill().variable(number));
        check.dueRange("variable in a run", 0, 7, ARGUMENT, number -> Check.ran(new ToolrestMill(), "v 7 1 1").variable(number));
        check.sentence("Returns what it is");
        ToolrestMill mill = Check.program("v 0 -50 0", "v 1 50 0", "v 2 3 0", "v 3 4 0", "v 4 5 0", "v 5 6 0", "v 6 7 0", "v 7 8 0");
        mill.run(100);
        int[] want = {-50, 50, 3, 4, 5, 6, 7, 8};
        for (int variable = 0; variable < 8; variable++) {
            check.due("variable " + variable, mill.variable(variable), want[variable]);
        }
    }

    private static void sumsAreCut() {
        check.sentence("what b plus c is, cut to -50 to 50");
        int[][] sums = {{50, 0, 50}, {49, 1, 50}, {50, 1, 50}, {25, 26, 50}, {50, 50, 50}, {48, 1, 49}, {50, -1, 49},
            {-50, 0, -50}, {-49, -1, -50}, {-50, -1, -50}, {-25, -26, -50}, {-50, -50, -50}, {-48, -1, -49}, {-50, 1, -49},
            {50, -50, 0}, {-50, 50, 0}, {0, 0, 0}};
        for (int[] sum : sums) {
            ToolrestMill mill = Check.ran(new ToolrestMill(), "v 3 " + sum[0] + " " + sum[1]);
            check.due(sum[0] + " plus " + sum[1], mill.variable(3) + " " + mill.alarm(), sum[2] + " -");
            mill = Check.ran(new ToolrestMill(), "v 3 " + sum[0] + ",v 4 " + sum[1] + ",v 3 103 104");
            check.due(sum[0] + " plus " + sum[1] + " by variables", mill.variable(3) + " " + mill.alarm(), sum[2] + " -");
        }
        check.due("twice itself", Check.ran(new ToolrestMill(), "v 0 26 0,v 0 100 100").variable(0), 50);
        check.due("twice itself", Check.ran(new ToolrestMill(), "v 0 25 0,v 0 100 100").variable(0), 50);
        check.due("twice itself", Check.ran(new ToolrestMill(), "v 0 -26 0,v 0 100 100").variable(0), -50);
    }

    private static void numbersOfVariablesInBlocks() {
        check.sentence("the variable with the number a");
        for (int number = -50; number <= 50; number++) {
            boolean isVariable = number >= 0 && number <= 7;
            ToolrestMill mill = Check.ran(new ToolrestMill(), "v " + number + " 3 4");
            check.due("v " + number, mill.alarm(), isVariable ? '-' : 'n');
            ToolrestMill told = Check.ran(new ToolrestMill(), "v 5 " + number + " 0,v 105 1 2");
            check.due("v by a variable that is " + number, told.alarm(), isVariable ? '-' : 'n');
            for (int variable = 0; variable < 8; variable++) {
                check.due("variable", mill.variable(variable), variable == number ? 7 : 0);
                int before = variable == 5 ? number : 0;
                check.due("variable told", told.variable(variable), variable == number ? 3 : before);
            }
            ToolrestMill probe = Check.ran(Check.withEnds(), "t 0 0,x " + number);
            check.due("x " + number, probe.alarm(), isVariable ? '-' : 'n');
            for (int variable = 0; variable < 8; variable++) {
                check.due("variable probed", probe.variable(variable), variable == number ? 6 : 0);
            }
        }
    }

    /** Promise 15. */
    private static void axes() {
        check.sentence("0 for x, 1 for y, 2 for z");
        check.dueRange("axis", 0, 2, ARGUMENT, axis -> new ToolrestMill().at(axis));
        ToolrestMill mill = Check.program("g 15 0 0", "g 0 11 0", "g 0 0 9", "g 15 11 9", "g 0 0 0");
        for (String place : new String[] {"15 0 0", "0 11 0", "0 0 9", "15 11 9", "0 0 0"}) {
            mill.run(1);
            check.due("place", Check.place(mill), place);
        }
    }

    /** Promise 16. */
    private static void cutter() {
        check.sentence("Returns 4 times the rack plus the place, or -1 for none");
        check.due("no cutters", new ToolrestMill().cutter(), -1);
        check.due("none taken", Check.withEnds().cutter(), -1);
        for (int slot = 0; slot < 12; slot++) {
            ToolrestMill mill = new ToolrestMill();
            mill.putCutter(slot / 4, slot % 4, "ebv".charAt(slot / 4), 3, 1);
            Check.add(mill, "t " + slot / 4 + " " + slot % 4, "t 3 0");
            check.due("ahead", mill.cutter(), -1);
            mill.run(1);
            check.due("slot", mill.cutter(), slot);
            mill.run(1);
            check.due("behind an alarm", mill.cutter() + " " + mill.alarm(), slot + " n");
            mill.reset();
            check.due("behind a reset", mill.cutter(), -1);
        }
        ToolrestMill refused = Check.ran(Check.withEnds(), "t 0 2");
        check.due("an alarm takes none", refused.cutter() + " " + refused.alarm(), "-1 n");
    }

    /** Promise 17. */
    private static void placesOfUses() {
        check.sentence("the rack, 0 to 2; the place in the rack, 0 to 3 (used)");
        check.dueRange("rack", 0, 2, BOUNDS, rack -> racksFull().used(rack, 3));
        for (int rack = 0; rack < 3; rack++) {
            int of = rack;
            check.dueRange("place in " + rack, 0, 3, BOUNDS, place -> racksFull().used(of, place));
        }
        check.sentence("Throws NoSuchElementException if no cutter is there");
        for (int slot = 0; slot < 12; slot++) {
            int at = slot;
            check.dueThrow("empty", NONE_THERE, () -> new ToolrestMill().used(at / 4, at % 4));
            check.due("full", racksFull().used(at / 4, at % 4), 0);
        }
    }

    private static ToolrestMill racksFull() {
        ToolrestMill mill = new ToolrestMill();
        for (int slot = 0; slot < 12; slot++) {
            mill.putCutter(slot / 4, slot % 4, "ebv".charAt(slot / 4), 0, 999);
        }
        return mill;
    }

    private static void uses() {
        check.sentence("Its use is the number of cells that it took");
        ToolrestMill mill = racksFull();
        Check.add(mill, "t 0 3", "s 1", "l 0 0 5", "l 0 0 5", "l 0 0 9", "l 0 0 0", "l 0 0 9", "s 0", "t 2 3", "s 1", "l 0 0 0",
                "g 1 0 9", "l 1 0 0");
        int[] first = {0, 0, 1, 1, 1, 6, 6, 6, 6, 6, 6, 6, 6};
        int[] second = {0, 0, 0, 0, 0, 0, 0, 0, 0, 0, 0, 0, 6};
        for (int block = 0; block < first.length; block++) {
            mill.run(1);
            check.due("uses behind block " + block, mill.used(0, 3) + " " + mill.used(2, 3), first[block] + " " + second[block]);
        }
        check.due("others", mill.used(0, 0) + mill.used(1, 3) + mill.used(2, 2), 0);
        mill.reset();
        check.due("none at first", mill.used(0, 3) + mill.used(2, 3), 0);
        ToolrestMill whole = new ToolrestMill();
        whole.putCutter(0, 0, 'e', 3, 1);
        Check.ran(whole, "t 0 0,s 1,p 15 11 9");
        check.due("more than its life", whole.used(0, 0), 1152);
    }

    private static void severalExceptionsOfUsed() {
        check.sentence("If several exceptions apply, the one that is documented first is thrown (used)");
        int[][] outside = {{3, 0}, {-1, 0}, {0, 4}, {0, -1}, {1, 4}, {2, -1}, {-1, 4}, {3, -1}};
        for (int[] slot : outside) {
            check.dueThrow("no such place, no cutters", BOUNDS, () -> new ToolrestMill().used(slot[0], slot[1]));
            check.dueThrow("no such place, all cutters", BOUNDS, () -> racksFull().used(slot[0], slot[1]));
        }
    }

    private static void lastCallOfAnObject() {
        check.sentence("An object is used for at most 512 calls after it has been made");
        ToolrestMill mill = new ToolrestMill();
        Check.add(mill, "r 9", "r 9", "r 9");
        for (int i = 3; i < 61; i++) {
            mill.addBlock('v', i % 8, 100 + i % 8, 1);
        }
        Check.add(mill, "e", "e", "e");
        int innermost = 1 + 9 * (58 + 1);
        int all = 1 + 9 * (1 + 9 * (innermost + 1) + 1);
        for (int call = 65; call < 65 + all / 100; call++) {
            check.due("call " + call, mill.run(100), 100);
        }
        check.due("the rest", mill.run(100), all % 100);
        for (int call = 65 + all / 100 + 1; call < 511; call++) {
            check.due("over", mill.run(100), 0);
        }
        check.due("call 511", mill.isSound(), true);
        check.due("call 512", mill.done(), all);
    }
}
