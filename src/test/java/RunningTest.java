/** Promises 8 to 17: running, and what can be asked of a run. */
public final class RunningTest {
    private static final Class<IllegalArgumentException> ARGUMENT = IllegalArgumentException.class;
    private static final Check check = new Check();

    public static void main(String[] args) {
        run();
        repeatsAndBranches();
        variables();
        reset();
        alarmAndPlaceInTheProgram();
        variable();
        at();
        cutter();
        used();
        check.end();
    }

    /** Promise 8. */
    private static void run() {
        ToolrestMill mill = Check.program("v 0 100 1", "v 0 100 1", "v 0 100 1", "q", "v 0 100 1", "t 0 0", "v 7 1 1");
        for (int blocks : new int[] {0, -1, 101, Integer.MIN_VALUE, Integer.MAX_VALUE}) {
            check.dueThrow("run(" + blocks + ")", ARGUMENT, () -> mill.run(blocks));
        }
        check.due("two at most", mill.run(2), 2);
        check.due("variable", mill.variable(0), 2);
        check.due("up to the stop", mill.run(100), 2);
        check.due("no alarm at a stop", mill.alarm(), '-');
        check.due("behind the stop", mill.next(), 4);
        check.due("up to the alarm", mill.run(100), 1);
        check.due("alarm", mill.alarm(), 'n');
        check.due("it stays", mill.run(1), 0);
        check.due("at the block", mill.next(), 5);
        check.due("done", mill.done(), 5);

        ToolrestMill open = Check.program("v 0 1 1", "r 1");
        check.dueThrow("run of an open program", IllegalStateException.class, () -> open.run(1));
        check.dueThrow("the number first", ARGUMENT, () -> open.run(0));
        check.dueThrow("the number first", ARGUMENT, () -> open.run(101));
        check.due("nothing done", open.done(), 0);

        ToolrestMill empty = new ToolrestMill();
        check.due("no blocks", empty.run(100), 0);
        ToolrestMill full = Check.program(new String[0]);
        for (int i = 0; i < 64; i++) {
            full.addBlock('v', 0, 100, 1);
        }
        check.due("all 64", full.run(100), 64);
        check.due("over", full.run(100), 0);
        check.due("cut to 50", full.variable(0), 50);
    }

    private static void repeatsAndBranches() {
        ends("r 3,v 0 100 1,e", "7 - 3 v3");
        ends("r 1,v 0 100 1,e", "3 - 3 v1");
        ends("r 0,v 0 100 1,e,v 0 100 9", "2 - 4 v9");
        ends("r 9,e", "10 - 2 v0");
        ends("r 10,e", "0 n 0 v0");
        ends("r -1,e", "0 n 0 v0");
        ends("i 2 1,v 0 100 1,e,v 0 100 9", "4 - 4 v10");
        ends("i 1 1,v 0 100 1,e,v 0 100 9", "2 - 4 v9");
        ends("i -1 0,v 0 100 1,e", "1 - 3 v0");
        ends("v 0 2 0,r 100,v 0 100 5,e", "6 - 4 v12");
        ends("v 1 1 0,r 2,r 101,v 0 100 1,v 1 101 1,e,e", "15 - 7 v3");
        ends("r 2,r 3,v 0 100 1,e,i 100 4,v 0 100 10,e,e", "21 - 8 v16");
        ends("r 2,q,v 0 100 1,e", "2 - 2 v0");
        ends("r 9,r 9,e,e", "100 - 4 v0");
        ToolrestMill mill = Check.program("r 9", "r 9", "e", "e", "v 0 4 4");
        check.due("first", mill.run(100), 100);
        check.due("behind the 1 and 9 times 11", mill.run(100), 1);
        check.due("over", mill.isOver(), true);
        ToolrestMill again = Check.program("r 2", "v 0 100 1", "e");
        again.run(3);
        again.reset();
        check.due("repeats anew", again.run(100), 5);
    }

    private static void ends(String blocks, String want) {
        ToolrestMill mill = Check.program(blocks.split(","));
        int carried = mill.run(100);
        check.due(blocks, carried + " " + mill.alarm() + " " + mill.next() + " v" + mill.variable(0), want);
    }

    private static void variables() {
        ends("v 0 20 22", "1 - 1 v42");
        ends("v 0 50 50", "1 - 1 v50");
        ends("v 0 -50 -1", "1 - 1 v-50");
        ends("v 0 50 -50", "1 - 1 v0");
        ends("v 8 1 1", "0 n 0 v0");
        ends("v -1 1 1", "0 n 0 v0");
        ends("v 1 7 0,v 0 101 101", "2 - 2 v14");
        ends("v 0 3 0,v 100 1 1,v 0 100 103", "3 - 3 v5");
        ends("v 0 8 0,v 100 1 1", "1 n 1 v8");
        ends("v 7 5 0,v 0 107 -20", "2 - 2 v-15");
    }

    /** Promise 9. */
    private static void reset() {
        ToolrestMill mill = Check.withEnds("t 0 1", "s 1", "f 50", "l 4 4 4", "m 1", "o 2", "v 3 9 9", "t 9 9");
        check.due("nothing done", mill.reset(), 0);
        mill.run(100);
        check.due("alarm", mill.alarm(), 'n');
        check.due("seven done", mill.reset(), 7);
        check.due("none again", mill.reset(), 0);
        check.due("state", mill.alarm() + " " + mill.next() + " " + mill.done() + " " + mill.cutter() + " " + mill.stock()
                + " " + mill.used(0, 1) + " " + mill.variable(3) + " " + mill.at(0) + mill.at(1) + mill.at(2) + " "
                + mill.time(), "- 0 0 -1 1152 0 0 009 0.0");
        mill.run(4);
        check.due("feed 50 again", mill.time(), 5f * (1f / 50f));

        ToolrestMill settings = Check.withEnds("t 0 0", "l 1 1 5", "s 1", "m 1", "o 1");
        settings.setOffset(1, 5, 5, 0);
        settings.run(1);
        settings.reset();
        settings.addBlock('g', 1, 1, 0);
        settings.run(100);
        check.due("the spindle is off anew", settings.alarm(), 's');
        ToolrestMill modes = Check.withEnds("g 3 0 8", "m 1", "o 1");
        modes.setOffset(1, 5, 5, 0);
        modes.run(100);
        check.due("at 3", modes.at(0), 3);
        modes.reset();
        modes.run(1);
        check.due("absolute, offset 0 anew", modes.at(0) + " " + modes.at(2), "3 8");
    }

    /** Promises 10 to 13. */
    private static void alarmAndPlaceInTheProgram() {
        ToolrestMill mill = Check.program("v 0 1 1", "s 2", "q");
        check.due("no alarm at first", mill.alarm(), '-');
        check.due("not over", mill.isOver(), false);
        mill.run(1);
        check.due("no alarm before the block is tried", mill.alarm(), '-');
        check.due("next", mill.next(), 1);
        check.due("none done", mill.run(1), 0);
        check.due("alarm", mill.alarm(), 'n');
        check.dueThrow("run(0)", ARGUMENT, () -> mill.run(0));
        check.due("alarm stays", mill.alarm(), 'n');
        check.due("not over at an alarm", mill.isOver(), false);
        check.due("next at an alarm", mill.next(), 1);
        check.due("done at an alarm", mill.done(), 1);
        mill.reset();
        check.due("no alarm in the new run", mill.alarm(), '-');
        mill.run(1);
        mill.run(1);
        mill.setOffset(0, 0, 0, 0);
        check.due("no alarm since an offset was told", mill.alarm(), '-');
        mill.dropBlock();
        mill.dropBlock();
        mill.addBlock('q', 0, 0, 0);
        mill.run(100);
        check.due("over behind the last block", mill.isOver(), true);
        check.due("next is the number of all", mill.next(), 2);
        check.due("done", mill.done(), 2);
        mill.run(100);
        check.due("done still", mill.done(), 2);
        mill.addBlock('q', 0, 0, 0);
        check.due("not over any more", mill.isOver(), false);
        check.due("next anew", mill.next(), 0);

        ToolrestMill cleared = Check.program("i 100 0", "t 0 0", "e", "v 0 1 0", "q");
        cleared.run(100);
        check.due("no alarm of a part left out", cleared.alarm(), '-');
        ToolrestMill skipped = Check.program("r 0", "e");
        skipped.run(1);
        check.due("over behind a part left out", skipped.isOver(), true);
        check.due("the closing block was not reached", skipped.done(), 1);
    }

    /** Promise 14. */
    private static void variable() {
        ToolrestMill mill = Check.program("v 0 1 0", "v 7 2 0", "v 3 -50 0");
        mill.run(100);
        check.due("0", mill.variable(0), 1);
        check.due("7", mill.variable(7), 2);
        check.due("3", mill.variable(3), -50);
        check.due("1", mill.variable(1), 0);
        for (int number : new int[] {8, -1, 100, Integer.MIN_VALUE, Integer.MAX_VALUE}) {
            check.dueThrow("variable(" + number + ")", ARGUMENT, () -> mill.variable(number));
        }
    }

    /** Promise 15. */
    private static void at() {
        ToolrestMill mill = Check.program("g 15 11 0");
        check.due("first place", mill.at(0) + " " + mill.at(1) + " " + mill.at(2), "0 0 9");
        mill.run(100);
        check.due("place", mill.at(0) + " " + mill.at(1) + " " + mill.at(2), "15 11 0");
        for (int axis : new int[] {3, -1, Integer.MIN_VALUE, Integer.MAX_VALUE}) {
            check.dueThrow("at(" + axis + ")", ARGUMENT, () -> mill.at(axis));
        }
    }

    /** Promise 16. */
    private static void cutter() {
        ToolrestMill mill = new ToolrestMill();
        mill.putCutter(2, 3, 'v', 1, 1);
        mill.putCutter(1, 2, 'b', 1, 1);
        mill.putCutter(0, 0, 'e', 1, 1);
        Check.add(mill, "t 2 3", "t 1 2", "t 0 0");
        check.due("none", mill.cutter(), -1);
        mill.run(1);
        check.due("rack 2, place 3", mill.cutter(), 11);
        mill.run(1);
        check.due("rack 1, place 2", mill.cutter(), 6);
        mill.run(1);
        check.due("rack 0, place 0", mill.cutter(), 0);
    }

    /** Promise 17. */
    private static void used() {
        ToolrestMill mill = Check.withEnds("t 0 1", "s 1", "l 0 0 5", "s 0", "t 0 0", "s 1", "l 4 0 5", "l 0 0 5");
        check.due("none", mill.used(0, 1), 0);
        mill.run(3);
        check.due("three in the corner", mill.used(0, 1), 3);
        check.due("not the other one", mill.used(0, 0), 0);
        mill.run(100);
        check.due("only what was stock", mill.used(0, 0), 3);
        check.due("as before", mill.used(0, 1), 3);
        int[][] outside = {{3, 0}, {-1, 0}, {0, 4}, {0, -1}, {Integer.MAX_VALUE, 0}, {-1, 4}};
        for (int[] slot : outside) {
            check.dueThrow("used", IndexOutOfBoundsException.class, () -> mill.used(slot[0], slot[1]));
        }
        for (int slot = 0; slot < 12; slot++) {
            int rack = slot / 4;
            int place = slot % 4;
            ToolrestMill any = new ToolrestMill();
            any.putCutter(rack, place, "ebe".charAt(rack), 2, 999);
            Check.add(any, "t " + rack + " " + place, "s 1", "g 8 6 6", "l 8 6 5");
            any.run(100);
            check.due("use in rack " + rack + " and place " + place, any.used(rack, place), rack == 1 ? 1 : 13);
        }
        check.dueThrow("used of an empty place", java.util.NoSuchElementException.class, () -> mill.used(2, 3));
        check.dueThrow("used of an empty place", java.util.NoSuchElementException.class, () -> mill.used(0, 2));
    }
}
