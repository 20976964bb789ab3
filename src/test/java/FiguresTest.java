/** Promises 18 to 27: the stock and the figures. */
public final class FiguresTest {
    private static final Class<IndexOutOfBoundsException> BOUNDS = IndexOutOfBoundsException.class;
    private static final Check check = new Check();

    public static void main(String[] args) {
        has();
        hasAnew();
        stock();
        height();
        checksum();
        time();
        timeBits();
        meanUse();
        taken();
        isSound();
        check.end();
    }

    private static ToolrestMill ran(String blocks) {
        ToolrestMill mill = Check.withEnds(blocks.split(","));
        mill.run(100);
        return mill;
    }

    /** Promise 18. */
    private static void has() {
        ToolrestMill mill = ran("t 0 0,s 1,g 15 11 9,l 15 11 3");
        for (int z = 0; z < 6; z++) {
            check.due("taken from 3 up", mill.has(15, 11, z), z < 3);
        }
        check.due("beside", mill.has(14, 11, 5) && mill.has(15, 10, 5) && mill.has(0, 0, 5), true);
        int[][] outside = {{16, 0, 0}, {-1, 0, 0}, {0, 12, 0}, {0, -1, 0}, {0, 0, 6}, {0, 0, -1},
            {Integer.MIN_VALUE, 0, 0}, {0, 0, Integer.MAX_VALUE}};
        for (int[] cell : outside) {
            check.dueThrow("has", BOUNDS, () -> mill.has(cell[0], cell[1], cell[2]));
            check.dueThrow("hasAnew", BOUNDS, () -> mill.hasAnew(cell[0], cell[1], cell[2]));
        }
    }

    /** Promise 19. */
    private static void hasAnew() {
        ToolrestMill mill = new ToolrestMill();
        for (int part = 0; part < 36; part++) {
            mill = Check.withEnds("t 0 1", "s 1", "q", "r 3", "v 0 100 2", "l 100 4 4", "q", "e", "t 0 0");
            for (int call = 0; call <= part / 3; call++) {
                mill.run(3);
            }
            String before = Check.state(mill);
            for (int i = part % 3; i < 1152; i += 8) {
                check.due("anew", mill.hasAnew(i % 16, i / 16 % 12, i / 192), mill.has(i % 16, i / 16 % 12, i / 192));
            }
            check.due("asking changes nothing", Check.state(mill), before);
        }
        check.due("in the end it was cut", mill.hasAnew(6, 4, 4), false);
        mill.reset();
        check.due("stock again behind a reset", mill.hasAnew(6, 4, 4), true);
    }

    /** Promise 20. */
    private static void stock() {
        check.due("all", new ToolrestMill().stock(), 1152);
        check.due("one less", ran("t 0 0,s 1,l 0 0 5").stock(), 1151);
        check.due("a column less", ran("t 0 0,s 1,d 9 9").stock(), 1146);
        check.due("none", ran("t 0 0,s 1,p 15 11 9").stock(), 0);
        ToolrestMill fixture = new ToolrestMill();
        fixture.setFixture(1, 1, 1, true);
        check.due("a fixture is stock", fixture.stock(), 1152);
    }

    /** Promise 21. */
    private static void height() {
        ToolrestMill mill = new ToolrestMill();
        mill.putCutter(0, 0, 'e', 0, 999);
        Check.add(mill, "t 0 0", "s 1", "d 9 9", "l 1 0 9", "d 5 5", "l 2 0 9", "d 4 4", "l 3 0 9", "d 8 8");
        mill.run(100);
        check.due("through", mill.height(0, 0), 0);
        check.due("down to 4", mill.height(1, 0), 4);
        check.due("down to 5", mill.height(2, 0), 5);
        check.due("down to 1", mill.height(3, 0), 1);
        check.due("not cut", mill.height(15, 11), 6);
        int[][] outside = {{16, 0}, {-1, 0}, {0, 12}, {0, -1}, {Integer.MAX_VALUE, 0}, {0, Integer.MIN_VALUE}};
        for (int[] column : outside) {
            check.dueThrow("height", BOUNDS, () -> mill.height(column[0], column[1]));
        }
        ToolrestMill hollow = new ToolrestMill();
        hollow.putCutter(2, 0, 'v', 1, 999);
        Check.add(hollow, "t 2 0", "s 1", "g 3 3 9", "l 3 3 2");
        hollow.run(100);
        check.due("at the flank", hollow.height(4, 3), 3);
        check.due("at the point", hollow.height(3, 3), 2);
    }

    /** Promise 22. */
    private static void checksum() {
        check.due("all", new ToolrestMill().checksum(), 510271680L);
        check.due("none", ran("t 0 0,s 1,p 15 11 9").checksum(), 0L);
        long number = 3 + 16 * 4 + 192 * 5 + 1;
        check.due("one less", ran("t 0 0,s 1,g 3 4 6,l 3 4 5").checksum(), 510271680L - number * number);
        long first = 192 * 5 + 1;
        check.due("the first one on top less", ran("t 0 0,s 1,l 0 0 5").checksum(), 510271680L - first * first);
    }

    /** Promise 23. */
    private static void time() {
        check.due("none", new ToolrestMill().time(), 0f);
        check.due("a move of 15 steps", ran("g 15 11 0").time(), 15f * 0.01f);
        check.due("no block but a move takes time", ran("t 0 0,s 1,v 0 1 1,x 0,q").time(), 0f);
        check.due("a cut of 9 steps", ran("t 0 0,s 1,f 7,l 0 0 0").time(), 9f * (1f / 7f));
        float sum = 0;
        for (int i = 0; i < 9; i++) {
            sum += 3f * (1f / 3f);
            sum += 3f * (1f / 100f);
        }
        check.due("one by one", ran("t 0 0,s 1,f 3,r 9,l 3 0 9,g 0 0 9,e").time(), sum);
        check.due("a move that gives an alarm takes none", ran("t 0 0,g 0 0 6,g 0 0 5").time(), 3f * 0.01f);
    }

    /** Promise 24. */
    private static void timeBits() {
        check.due("none", new ToolrestMill().timeBits(), 0);
        for (int feed = 1; feed <= 50; feed++) {
            ToolrestMill mill = ran("t 0 0,s 1,f " + feed + ",r 9,l 15 0 9,l 0 1 9,g 0 0 9,e,q");
            check.due("bits", mill.timeBits(), Float.floatToIntBits(mill.time()));
            mill.reset();
            for (int i = 0; i < 20; i++) {
                mill.run(1);
                check.due("bits", mill.timeBits(), Float.floatToIntBits(mill.time()));
            }
        }
        ToolrestMill exact = ran("t 0 0,s 1,f 1,l 8 0 9,l 0 0 9");
        check.due("16", exact.timeBits(), Float.floatToIntBits(16f));
        ToolrestMill least = ran("g 1 0 9");
        check.due("a hundredth", least.timeBits(), Float.floatToIntBits(0.01f));
    }

    /** Promise 25. */
    private static void meanUse() {
        check.dueThrow("no cutters", ArithmeticException.class, () -> new ToolrestMill().meanUse());
        check.due("no use", Check.withEnds().meanUse(), 0.0);
        ToolrestMill mill = ran("t 0 0,s 1,l 0 0 5,s 0,t 0 1,s 1,l 1 1 5");
        check.due("1 and 4", mill.used(0, 0) + " " + mill.used(0, 1), "1 5");
        check.due("of two", mill.meanUse(), 3.0);
        mill.putCutter(2, 2, 'v', 1, 1);
        check.due("anew", mill.meanUse(), 0.0);
        mill.putCutter(1, 2, 'b', 1, 1);
        mill.run(100);
        check.due("of four", mill.meanUse(), 1.5);
        ToolrestMill three = new ToolrestMill();
        three.putCutter(0, 0, 'e', 0, 9);
        three.putCutter(1, 0, 'b', 0, 9);
        three.putCutter(2, 3, 'v', 0, 9);
        Check.add(three, "t 2 3", "s 1", "l 0 0 5");
        three.run(100);
        check.due("a third", three.meanUse(), 1.0 / 3.0);
    }

    /** Promise 26. */
    private static void taken() {
        check.due("none", bits(new ToolrestMill().taken()), bits(0f));
        check.due("one", bits(ran("t 0 0,s 1,l 0 0 5").taken()), bits(1f / 1152));
        check.due("all", bits(ran("t 0 0,s 1,p 15 11 9").taken()), bits(-1f));
        check.due("half is not less than nothing", bits(ran("t 0 0,s 1,p 15 5 9").taken()), bits(0.5f));
        check.due("one more than half", bits(ran("t 0 0,s 1,p 15 5 9,g 15 6 9,l 15 6 5").taken()), bits(-577f / 1152));
        check.due("five less than half", bits(ran("t 0 0,s 1,p 15 4 9,g 0 5 9,p 14 0 9,l 15 5 5").taken()), bits(571f / 1152));
    }

    private static int bits(float number) {
        return Float.floatToRawIntBits(number);
    }

    /** Promise 27. */
    private static void isSound() {
        check.due("new", new ToolrestMill().isSound(), true);
        check.due("open", Check.program("r 1", "e", "e").isSound(), true);
        ToolrestMill mill = Check.withEnds("t 0 1", "s 1", "r 9", "v 0 100 1", "l 100 6 2", "f 100", "d 1 1", "e", "s 0",
                "t 0 0", "s 1", "g 15 6 9", "p 0 5 5", "l 0 0 -1");
        mill.setFixture(12, 9, 0, true);
        mill.setFixture(3, 3, 3, true);
        check.due("begun", mill.isSound(), true);
        for (int i = 0; i < 5; i++) {
            mill.run(13);
            String before = Check.state(mill);
            check.due("sound", mill.isSound(), true);
            check.due("asking changes nothing", Check.state(mill), before);
        }
        mill.reset();
        check.due("behind a reset", mill.isSound(), true);
    }
}
