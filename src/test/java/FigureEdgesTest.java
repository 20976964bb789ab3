/** Promises 18 to 27 at their edges: a test for each sentence that names one. */
public final class FigureEdgesTest {
    private static final Class<IndexOutOfBoundsException> BOUNDS = IndexOutOfBoundsException.class;
    private static final String ALL_CUT = "t 0 0,s 1,p 15 11 9";
    /** The cell 15, 11, 0 is left. */
    private static final String ALL_BUT_ONE = "t 0 0,s 1,p 15 10 9,s 0,t 0 1,s 1,g 0 11 9,p 13 0 9,g 15 11 9,d 8 8";

    private static final Check check = new Check();

    public static void main(String[] args) {
        cellsOfHas();
        stockCells();
        cellsOfHasAnew();
        sameFromNothing();
        anewAtTheEdgesOfRuns();
        numbersOfStock();
        columns();
        heights();
        checksums();
        times();
        bitsOfTimes();
        meanWithoutCutters();
        meanUses();
        shares();
        signsOfShares();
        soundness();
        askingChangesNothing();
        check.end();
    }

    private static ToolrestMill ran(String blocks) {
        return Check.ran(Check.withEnds(), blocks);
    }

    /** Promise 18. */
    private static void cellsOfHas() {
        check.sentence("Throws IndexOutOfBoundsException if there is no such cell (has)");
        check.dueRange("x", 0, 15, BOUNDS, x -> new ToolrestMill().has(x, 11, 5));
        check.dueRange("y", 0, 11, BOUNDS, y -> new ToolrestMill().has(15, y, 5));
        check.dueRange("z", 0, 5, BOUNDS, z -> new ToolrestMill().has(15, 11, z));
        check.dueRange("x at 0", 0, 15, BOUNDS, x -> new ToolrestMill().has(x, 0, 0));
        check.dueRange("y at 0", 0, 11, BOUNDS, y -> new ToolrestMill().has(0, y, 0));
        check.dueRange("z at 0", 0, 5, BOUNDS, z -> new ToolrestMill().has(0, 0, z));
        check.dueThrow("the cutter's greatest z", BOUNDS, () -> new ToolrestMill().has(0, 0, 9));
    }

    private static void stockCells() {
        check.sentence("Returns whether it is (has)");
        for (int cell = 0; cell < 192; cell++) {
            int x = cell % 16;
            int y = cell / 16;
            ToolrestMill mill = ran("t 0 0,s 1,g " + x + " " + y + " 9,l " + x + " " + y + " 5");
            for (int other = 0; other < 192; other++) {
                check.due("on top", mill.has(other % 16, other / 16, 5), other != cell);
            }
            check.due("below", mill.has(x, y, 4), true);
        }
        ToolrestMill none = ran(ALL_CUT);
        for (int cell = 0; cell < 192; cell++) {
            check.due("all cut", none.has(cell % 16, cell / 16, 0) || none.has(cell % 16, cell / 16, 5), false);
        }
        none.reset();
        check.due("stock again", none.has(0, 0, 0) && none.has(15, 11, 5), true);
    }

    /** Promise 19. */
    private static void cellsOfHasAnew() {
        check.sentence("Throws IndexOutOfBoundsException if there is no such cell (hasAnew)");
        check.dueRange("x", 0, 15, BOUNDS, x -> new ToolrestMill().hasAnew(x, 11, 5));
        check.dueRange("y", 0, 11, BOUNDS, y -> new ToolrestMill().hasAnew(15, y, 5));
        check.dueRange("z", 0, 5, BOUNDS, z -> new ToolrestMill().hasAnew(15, 11, z));
        ToolrestMill mill = ran(ALL_CUT);
        check.dueThrow("in a run", BOUNDS, () -> mill.hasAnew(16, 0, 0));
        check.dueThrow("in a run", BOUNDS, () -> mill.hasAnew(0, 12, 0));
        check.dueThrow("in a run", BOUNDS, () -> mill.hasAnew(0, 0, 6));
        check.dueThrow("in a run", BOUNDS, () -> mill.hasAnew(-1, 0, 0));
    }

    private static void sameFromNothing() {
        check.sentence("Returns the same, found by carrying out as many blocks from nothing");
        String blocks = "t 0 0,s 1,v 1 1 0,r 3,l 100 2 5,d 3 2,v 0 100 1,r 101,g 100 2 9,p 1 1 5,v 1 101 1,e,q,e,t 0 1";
        for (int part = 1; part <= 7; part++) {
            ToolrestMill mill = Check.add(Check.withEnds(), blocks.split(","));
            for (int call = 0; call < 10; call++) {
                mill.run(part);
                for (int cell = call; cell < 1152; cell += 61) {
                    int x = cell % 16;
                    int y = cell / 16 % 12;
                    check.due("in parts of " + part, mill.hasAnew(x, y, cell / 192), mill.has(x, y, cell / 192));
                }
            }
        }
        check.sentence("What is cut is the same by running in parts and from nothing");
        for (int part = 1; part <= 7; part++) {
            ToolrestMill parts = Check.add(Check.withEnds(), blocks.split(","));
            ToolrestMill whole = Check.add(Check.withEnds(), blocks.split(","));
            for (int call = 0; call < 100; call++) {
                parts.run(part);
            }
            for (int call = 0; call < 5; call++) {
                whole.run(100);
            }
            check.due("in parts of " + part, Check.state(parts), Check.state(whole));
            check.due("the alarm at the end", whole.alarm(), 't');
        }
    }

    private static void anewAtTheEdgesOfRuns() {
        check.sentence("found by carrying out as many blocks from nothing (none, all, at an alarm, open)");
        check.due("no blocks", new ToolrestMill().hasAnew(0, 0, 0), true);
        check.due("none carried out", Check.add(Check.withEnds(), ALL_CUT.split(",")).hasAnew(0, 0, 0), true);
        ToolrestMill all = ran(ALL_CUT);
        check.due("all carried out", all.hasAnew(0, 0, 0) || all.hasAnew(15, 11, 5), false);
        all.reset();
        check.due("begun anew", all.hasAnew(0, 0, 0) && all.hasAnew(15, 11, 5), true);
        ToolrestMill alarmed = ran("t 0 0,s 1,l 0 0 5,l 1 0 5,l 16 0 5");
        check.due("at an alarm", alarmed.hasAnew(0, 0, 5) + " " + alarmed.hasAnew(1, 0, 5) + " " + alarmed.hasAnew(2, 0, 5),
                "false false true");
        check.due("open", Check.add(Check.withEnds(), "t 0 0", "r 1").hasAnew(0, 0, 5), true);
        check.due("not opened", Check.add(Check.withEnds(), "e", "e").hasAnew(0, 0, 5), true);
        ToolrestMill dropped = ran("t 0 0,s 1,l 0 0 5");
        dropped.dropBlock();
        check.due("the last block taken away", dropped.hasAnew(0, 0, 5), true);
        dropped.run(100);
        check.due("run without it", dropped.hasAnew(0, 0, 5), true);
        ToolrestMill worn = new ToolrestMill();
        worn.putCutter(0, 0, 'e', 0, 1);
        worn.putCutter(0, 1, 'e', 0, 999);
        Check.ran(worn, "t 0 0,s 1,l 0 0 5,s 0,t 0 0,s 1,l 3 0 5");
        check.due("uses count from nothing", worn.hasAnew(3, 0, 5) + " " + worn.cutter() + " " + worn.isSound(), "false 1 true");
        ToolrestMill stops = Check.add(Check.withEnds(), "t 0 0", "s 1", "q", "q", "l 0 0 5");
        for (int call = 0; call < 3; call++) {
            stops.run(100);
        }
        check.due("stops do not end it", stops.hasAnew(0, 0, 5), false);
    }

    /** Promise 20. */
    private static void numbersOfStock() {
        check.sentence("Returns how many cells are stock");
        check.due("all", new ToolrestMill().stock(), 1152);
        check.due("all but one", ran("t 0 0,s 1,l 0 0 5").stock(), 1151);
        check.due("one", ran(ALL_BUT_ONE).stock() + " " + ran(ALL_BUT_ONE).has(15, 11, 0), "1 true");
        check.due("none", ran(ALL_CUT).stock(), 0);
        ToolrestMill fixture = new ToolrestMill();
        fixture.setFixture(3, 3, 3, true);
        check.due("a fixture is stock", fixture.stock() + " " + fixture.has(3, 3, 3) + " " + fixture.hasAnew(3, 3, 3), "1152 true true");
        ToolrestMill mill = ran(ALL_CUT);
        mill.setFixture(3, 3, 3, true);
        check.due("all again", mill.stock(), 1152);
    }

    /** Promise 21. */
    private static void columns() {
        check.sentence("Throws IndexOutOfBoundsException if there is no such column");
        check.dueRange("x", 0, 15, BOUNDS, x -> new ToolrestMill().height(x, 11));
        check.dueRange("y", 0, 11, BOUNDS, y -> new ToolrestMill().height(15, y));
        check.dueRange("x at 0", 0, 15, BOUNDS, x -> new ToolrestMill().height(x, 0));
        check.dueRange("y at 0", 0, 11, BOUNDS, y -> new ToolrestMill().height(0, y));
        check.dueThrow("neither x nor y", BOUNDS, () -> new ToolrestMill().height(16, -1));
    }

    private static void heights() {
        check.sentence("Returns the greatest z of a stock cell, plus 1, or 0");
        for (int z = 0; z <= 9; z++) {
            ToolrestMill mill = ran("t 0 0,s 1,g 15 11 9,l 15 11 " + z);
            check.due("cut down to " + z, mill.height(15, 11), z < 6 ? z : 6);
            check.due("the neighbours", mill.height(14, 11) + " " + mill.height(15, 10) + " " + mill.height(0, 0), "6 6 6");
        }
        ToolrestMill none = ran(ALL_CUT);
        for (int column = 0; column < 192; column++) {
            check.due("all cut", none.height(column % 16, column / 16), 0);
            check.due("none cut", new ToolrestMill().height(column % 16, column / 16), 6);
        }
        ToolrestMill fixture = Check.withEnds();
        fixture.setFixture(7, 7, 0, true);
        Check.ran(fixture, "t 0 0,s 1,g 7 7 9,d 8 8");
        check.due("down to a fixture", fixture.height(7, 7), 1);
    }

    private static long number(int x, int y, int z) {
        return x + 16L * y + 192L * z + 1;
    }

    /** Promise 22. */
    private static void checksums() {
        check.sentence("the sum, over all stock cells, of x plus 16 times y plus 192 times z, plus 1, times itself");
        long all = 0;
        for (long number = 1; number <= 1152; number++) {
            all += number * number;
        }
        check.due("all", new ToolrestMill().checksum(), all);
        check.due("none", ran(ALL_CUT).checksum(), 0L);
        int[][] columns = {{0, 0}, {15, 0}, {0, 11}, {15, 11}, {1, 0}, {0, 1}, {7, 5}};
        for (int[] column : columns) {
            long sum = all;
            String to = column[0] + " " + column[1] + " ";
            for (int z = 5; z >= 0; z--) {
                sum -= number(column[0], column[1], z) * number(column[0], column[1], z);
                check.due("down to " + to + z, ran("t 0 0,s 1,g " + to + "9,l " + to + z).checksum(), sum);
            }
        }
        check.due("one cell alone", ran(ALL_BUT_ONE).checksum(), number(15, 11, 0) * number(15, 11, 0));
    }

    /** Promise 23. */
    private static void times() {
        check.sentence("Returns the time of the run so far");
        check.due("no blocks", new ToolrestMill().time(), 0f);
        check.due("none carried out", Check.withEnds("g 5 5 9").time(), 0f);
        ToolrestMill mill = ran("g 15 0 9");
        check.due("a move", mill.time(), 15f * (1f / 100f));
        mill.reset();
        check.due("behind a reset", mill.time(), 0f);
        mill.run(1);
        mill.addBlock('q', 0, 0, 0);
        check.due("behind a block", mill.time(), 0f);
        check.due("alarms take none", ran("g 16 0 9").time() + ran("l 1 1 1").time() + ran("t 0 0,s 1,d 10 1").time(), 0f);
        check.due("other blocks take none", ran("v 0 1 1,t 0 1,s 1,f 1,m 1,o 1,x 0,r 2,e,i 1 0,e,q").time(), 0f);
    }

    /** Promise 24. */
    private static void bitsOfTimes() {
        check.sentence("Returns the bits, as Float.floatToIntBits() tells them");
        check.due("0", new ToolrestMill().timeBits(), 0);
        check.due("1", ran("t 0 0,s 1,f 1,l 1 0 9").timeBits(), 0x3f800000);
        check.due("2", ran("t 0 0,s 1,f 1,l 2 0 9").timeBits(), 0x40000000);
        check.due("a half", ran("t 0 0,s 1,f 2,l 1 0 9").timeBits(), 0x3f000000);
        check.due("a quarter", ran("t 0 0,s 1,f 4,l 1 0 9").timeBits(), 0x3e800000);
        check.due("an eighth and 3", ran("t 0 0,s 1,f 8,l 1 0 9,f 1,l 4 0 9").timeBits(), 0x40480000);
        check.due("15", ran("t 0 0,s 1,f 1,l 15 0 9").timeBits(), 0x41700000);
        check.due("16", ran("t 0 0,s 1,f 1,l 15 0 9,l 14 0 9").timeBits(), 0x41800000);
        check.due("a hundredth", ran("g 1 0 9").timeBits(), 0x3c23d70a);
        check.due("a fiftieth", ran("t 0 0,s 1,f 50,l 1 0 9").timeBits(), 0x3ca3d70a);
        check.due("a tenth", ran("t 0 0,s 1,l 1 0 9").timeBits(), 0x3dcccccd);
        check.due("a third", ran("t 0 0,s 1,f 3,l 1 0 9").timeBits(), 0x3eaaaaab);
        ToolrestMill longest = Check.withEnds("t 0 0", "s 1", "f 1", "r 9", "r 9", "r 9", "l 15 11 9", "d 9 1", "l 0 0 9", "e", "e",
                "e");
        for (int call = 0; call < 150; call++) {
            longest.run(23);
            check.due("a long run", longest.timeBits(), Float.floatToIntBits(longest.time()));
        }
        check.due("thousands", longest.time() > 40000f, true);
    }

    /** Promise 25. */
    private static void meanWithoutCutters() {
        check.sentence("Throws ArithmeticException if there are none");
        check.dueThrow("no cutters", ArithmeticException.class, () -> new ToolrestMill().meanUse());
        ToolrestMill mill = Check.program("g 1 1 9", "q");
        mill.run(100);
        check.dueThrow("no cutters in a run", ArithmeticException.class, mill::meanUse);
        check.due("it changed nothing", mill.done() + " " + mill.isOver() + " " + mill.isSound(), "2 true true");
        Check.thrownBy(() -> mill.putCutter(0, 0, 'b', 1, 1));
        check.dueThrow("none was put", ArithmeticException.class, mill::meanUse);
        for (int slot = 0; slot < 12; slot++) {
            ToolrestMill one = new ToolrestMill();
            one.putCutter(slot / 4, slot % 4, "ebv".charAt(slot / 4), 1, 1);
            check.due("one cutter at " + slot, one.meanUse(), 0.0);
        }
    }

    private static void meanUses() {
        check.sentence("the sum of their uses divided by the number of cutters in all racks, both converted to double");
        ToolrestMill mill = new ToolrestMill();
        for (int slot = 0; slot < 12; slot++) {
            mill.putCutter(slot / 4, slot % 4, "ebv".charAt(slot / 4), 0, 999);
            Check.add(mill, "s 0", "t " + slot / 4 + " " + slot % 4, "s 1", "l " + slot + " 0 9", "d 9 9");
            mill.reset();
            for (int call = 0; call < 2; call++) {
                mill.run(100);
            }
            check.due("6 cells by each of " + (slot + 1), mill.meanUse(), (double) (6 * (slot + 1)) / (double) (slot + 1));
        }
        mill.putCutter(0, 0, 'e', 0, 999);
        mill.run(10);
        check.due("12 cells by 12", mill.meanUse(), 1.0);
        ToolrestMill sixths = new ToolrestMill();
        for (int place = 0; place < 3; place++) {
            sixths.putCutter(2, place, 'v', 0, 9);
        }
        for (int place = 0; place < 4; place++) {
            sixths.putCutter(1, place, 'b', 0, 9);
        }
        Check.ran(sixths, "t 1 3,s 1,l 0 0 5,l 0 0 4,l 0 0 3");
        check.due("3 cells by 7", sixths.meanUse(), 3.0 / 7.0);
    }

    private static int bits(float number) {
        return Float.floatToRawIntBits(number);
    }

    /** Promise 26. */
    private static void shares() {
        check.sentence("the number of cells that were taken, converted to float, divided by 1152");
        check.due("none", bits(new ToolrestMill().taken()), bits(0f));
        for (int cells = 1; cells <= 11; cells++) {
            ToolrestMill mill = ran("t 0 0,s 1,l 0 0 5,l " + (cells - 1) + " 0 5");
            check.due(cells + " cells", bits(mill.taken()), bits((float) cells / 1152f));
        }
        check.due("all", bits(ran(ALL_CUT).taken()), bits(-1f));
        ToolrestMill anew = ran(ALL_CUT);
        anew.reset();
        check.due("none again", bits(anew.taken()), bits(0f));
    }

    private static void signsOfShares() {
        check.sentence("with the sign that what is left, less what was taken, has as a float, by Math.copySign()");
        String half = "t 0 0,s 1,p 15 4 9,g 0 5 9,p 14 0 9,g 15 5 9,";
        check.due("574 taken", bits(ran(half + "l 15 5 2").taken()), bits(574f / 1152f));
        check.due("575 taken", bits(ran(half + "l 15 5 1").taken()), bits(575f / 1152f));
        check.due("576 taken, the difference is 0", bits(ran(half + "l 15 5 0").taken()), bits(0.5f));
        check.due("577 taken", bits(ran(half + "l 15 5 0,g 15 5 9,l 15 6 5").taken()), bits(-577f / 1152f));
        check.due("578 taken", bits(ran(half + "l 15 5 0,g 15 5 9,l 15 6 5,l 14 6 5").taken()), bits(-578f / 1152f));
        check.due("1151 taken", bits(ran(ALL_BUT_ONE).taken()), bits(-1151f / 1152f));
    }

    /** Promise 27. */
    private static void soundness() {
        check.sentence("Returns whether this holds");
        check.due("no blocks", new ToolrestMill().isSound(), true);
        check.due("open", Check.program("r 1").isSound(), true);
        check.due("none carried out", Check.withEnds(ALL_CUT.split(",")).isSound(), true);
        check.due("all cut", ran(ALL_CUT).isSound(), true);
        ToolrestMill fixtures = Check.withEnds();
        for (int x = 0; x < 16; x++) {
            fixtures.setFixture(x, 5, 2, true);
        }
        check.due("fixtures", fixtures.isSound(), true);
        Check.ran(fixtures, "t 0 1,s 1,l 0 0 3,l 15 11 3,l 15 11 2,l 15 6 2");
        check.due("up to the fixtures", fixtures.alarm() + " " + fixtures.isSound(), "c true");
        fixtures.setFixture(0, 5, 2, false);
        check.due("begun", fixtures.isSound(), true);
        ToolrestMill worn = new ToolrestMill();
        worn.putCutter(2, 0, 'v', 3, 1);
        worn.putCutter(2, 1, 'v', 3, 2);
        worn.putCutter(2, 2, 'v', 3, 999);
        Check.add(worn, "r 4", "s 0", "t 2 0", "s 1", "d 9 2", "m 1", "g 3 1 0", "q", "e");
        for (int call = 0; call < 6; call++) {
            worn.run(100);
            check.due("in a run with three cutters", worn.isSound(), true);
        }
        check.due("the last one was used", worn.used(2, 2) > 0, true);
    }

    private static void askingChangesNothing() {
        check.sentence("Returns .. (asking changes nothing)");
        ToolrestMill mill = ran("t 0 1,s 1,v 3 4 0,f 7,l 5 5 2,m 1,o 2,t 0 0");
        ToolrestMill twin = ran("t 0 1,s 1,v 3 4 0,f 7,l 5 5 2,m 1,o 2,t 0 0");
        for (int i = 0; i < 4; i++) {
            check.due("state", Check.state(mill), Check.state(twin));
            mill.hasAnew(5, 5, 5);
            mill.isSound();
            mill.has(5, 5, 5);
            mill.height(5, 5);
            mill.checksum();
            mill.meanUse();
            mill.taken();
        }
        check.due("the alarm, too", mill.run(1) + " " + mill.alarm(), "0 t");
    }
}
