/** The document's terms on moves, cutters and alarms, as promise 8 carries them out. */
public final class MovesTest {
    private static final Check check = new Check();

    public static void main(String[] args) {
        targets();
        stepsAreRounded();
        shapes();
        atTheEdges();
        drilling();
        pocket();
        probing();
        changing();
        settings();
        alarmN();
        alarmsTAndW();
        alarmS();
        alarmL();
        alarmC();
        alarmX();
        alarmDoesNothing();
        check.end();
    }

    private static String place(ToolrestMill mill) {
        return mill.at(0) + " " + mill.at(1) + " " + mill.at(2);
    }

    private static ToolrestMill ran(ToolrestMill mill, String blocks) {
        Check.add(mill, blocks.split(","));
        mill.run(100);
        return mill;
    }

    private static void alarm(char want, int next, String blocks) {
        ToolrestMill mill = ran(Check.withEnds(), blocks);
        check.due(blocks, mill.alarm() + " " + mill.next(), want + " " + next);
    }

    private static void targets() {
        ToolrestMill mill = Check.withEnds();
        mill.setOffset(0, 1, 2, -1);
        mill.setOffset(3, -2, 0, 1);
        Check.add(mill, "g 3 4 9", "o 3", "g 3 4 8", "m 1", "g 2 1 -1", "g -1 0 1", "m 0", "o 0", "g 0 0 9");
        mill.run(1);
        check.due("with offset 0", place(mill), "4 6 8");
        mill.run(2);
        check.due("with offset 3", place(mill), "1 4 9");
        mill.run(2);
        check.due("stepwise, without offset", place(mill), "3 5 8");
        mill.run(1);
        check.due("stepwise again", place(mill), "2 5 9");
        mill.run(3);
        check.due("absolute again", place(mill), "1 2 8");
        ToolrestMill variables = ran(Check.withEnds(), "v 2 7 0,v 5 3 0,g 102 105 105");
        check.due("variables", place(variables), "7 3 3");
    }

    private static void stepsAreRounded() {
        ToolrestMill mill = ran(Check.withEnds(), "t 0 0,s 1,g 10 5 6,l 10 5 5,l 5 3 5");
        int[][] want = {{10, 5}, {9, 5}, {8, 5}, {7, 4}, {6, 4}, {5, 3}};
        check.due("as many cells", mill.stock(), 1152 - want.length);
        for (int[] cell : want) {
            check.due("taken " + cell[0] + " " + cell[1], mill.has(cell[0], cell[1], 5), false);
        }
        ToolrestMill up = ran(Check.withEnds(), "t 0 0,s 1,l 0 0 5,l 3 5 5");
        for (int[] cell : new int[][] {{0, 0}, {0, 1}, {1, 2}, {1, 3}, {2, 4}, {3, 5}}) {
            check.due("taken " + cell[0] + " " + cell[1], up.has(cell[0], cell[1], 5), false);
        }
        check.due("as many cells", up.stock(), 1152 - 6);
        ToolrestMill none = ran(Check.withEnds(), "t 0 0,s 1,l 0 0 9");
        check.due("a move without steps", none.done() + " " + none.time() + " " + none.stock(), "3 0.0 1152");
    }

    private static void shapes() {
        shape('e', 0, 2, 1, 1, 1, 1);
        shape('e', 1, 2, 5, 5, 5, 5);
        shape('e', 2, 2, 13, 13, 13, 13);
        shape('e', 3, 2, 29, 29, 29, 29);
        shape('b', 0, 2, 1, 1, 1, 1);
        shape('b', 1, 2, 1, 5, 5, 5);
        shape('b', 2, 2, 1, 9, 13, 13);
        shape('b', 3, 1, 1, 21, 25, 29, 29);
        shape('v', 0, 2, 1, 1, 1, 1);
        shape('v', 1, 2, 1, 5, 5, 5);
        shape('v', 2, 2, 1, 5, 13, 13);
        shape('v', 3, 1, 1, 5, 13, 29, 29);
    }

    private static void shape(char shape, int radius, int z, int... layers) {
        ToolrestMill mill = new ToolrestMill();
        int sum = 0;
        for (int i = 0; i < 6; i++) {
            mill = new ToolrestMill();
            mill.putCutter(2, 0, shape, radius, 999);
            ran(mill, "t 2 0,s 1,g 8 6 9,l 8 6 " + z);
            int want = i < z ? 0 : layers[i - z];
            check.due(shape + " " + radius + " in layer " + i, takenIn(mill, i), want);
            sum += want;
        }
        check.due("use", mill.used(2, 0), sum);
        ToolrestMill corner = new ToolrestMill();
        corner.putCutter(2, 0, shape, radius, 999);
        ran(corner, "t 2 0,s 1,g 15 11 9,l 15 11 0");
        check.due("no cell outside is counted", corner.used(2, 0), 1152 - corner.stock());
        check.due("the lowest cells", corner.has(15, 11, 0), false);
        check.due("the far corner is stock", corner.has(0, 0, 5) && corner.has(0, 11, 5) && corner.has(15, 0, 5), true);
    }

    private static void atTheEdges() {
        edge(0, 0, 3);
        edge(15, 0, 3);
        edge(0, 11, 3);
        edge(15, 11, 3);
        edge(7, 0, 4);
        edge(7, 11, 4);
        edge(0, 5, 4);
        edge(15, 5, 4);
        edge(1, 1, 5);
        edge(14, 10, 5);
    }

    private static void edge(int x, int y, int want) {
        ToolrestMill mill = ran(Check.withEnds(), "t 0 1,s 1,g " + x + " " + y + " 6,l " + x + " " + y + " 5");
        check.due("taken at " + x + " " + y, mill.used(0, 1) + " " + mill.stock(), want + " " + (1152 - want));
        for (int i = 0; i < 192; i++) {
            int distance = (i % 16 - x) * (i % 16 - x) + (i / 16 - y) * (i / 16 - y);
            check.due("at " + i + " from " + x + " " + y, mill.has(i % 16, i / 16, 5), distance > 1);
        }
    }

    private static int takenIn(ToolrestMill mill, int z) {
        int taken = 0;
        for (int i = 0; i < 192; i++) {
            taken += mill.has(i % 16, i / 16, z) ? 0 : 1;
        }
        return taken;
    }

    private static void drilling() {
        ToolrestMill mill = ran(Check.withEnds(), "t 0 0,s 1,g 4 4 7,d 5 2");
        check.due("place", place(mill), "4 4 7");
        check.due("height", mill.height(4, 4), 2);
        check.due("taken", mill.stock(), 1152 - 4);
        check.due("cuts by 2, 4 and 5", mill.time(), sum(4f * (1f / 100f), 0.1f, 2, 4, 5));
        ToolrestMill aside = ran(Check.withEnds(), "t 0 0,s 1,g 5 3 9,d 9 4");
        check.due("straight down", aside.stock() + " " + aside.height(5, 3) + " " + place(aside), "1146 0 5 3 9");
        check.due("cuts by 2 and 4", drilled("d 4 2"), sum(0f, 0.1f, 2, 4));
        check.due("a cut by 3", drilled("d 3 9"), sum(0f, 0.1f, 3));
        check.due("a cut by 3, none as long", drilled("d 3 3"), sum(0f, 0.1f, 3));
        check.due("cuts by 1 to 9", drilled("d 9 1"), sum(0f, 0.1f, 1, 2, 3, 4, 5, 6, 7, 8, 9));
        check.due("a cut by 0", drilled("d 0 1"), 0f);
        ToolrestMill anyC = ran(Check.withEnds(), "t 0 0,s 1,d 9 50 -50");
        check.due("c has no meaning", anyC.height(0, 0), 0);
    }

    private static float drilled(String block) {
        ToolrestMill mill = ran(Check.withEnds(), "t 0 0,s 1," + block);
        check.due(block, mill.alarm(), '-');
        return mill.time();
    }

    private static float sum(float begin, float step, int... steps) {
        float sum = begin;
        for (int count : steps) {
            sum += count * step;
        }
        return sum;
    }

    private static void pocket() {
        ToolrestMill mill = ran(Check.withEnds(), "t 0 0,s 1,g 2 2 9,p 3 2 5");
        check.due("place behind two lines", place(mill), "5 4 9");
        check.due("taken", mill.stock(), 1152 - 24);
        for (int x = 2; x <= 5; x++) {
            for (int y = 2; y <= 4; y++) {
                check.due("height", mill.height(x, y), 4);
            }
        }
        check.due("time", mill.time(), sum(2f * (1f / 100f), 0.1f, 5, 3, 1, 3, 1, 3));
        ToolrestMill one = ran(Check.withEnds(), "t 0 0,s 1,g 2 2 9,p 3 1 4");
        check.due("place behind one line", place(one), "2 3 9");
        check.due("taken", one.stock(), 1152 - 8);
        ToolrestMill none = ran(Check.withEnds(), "t 0 0,s 1,g 2 2 9,p 3 0 4");
        check.due("place without lines", place(none), "5 2 9");
        check.due("taken", none.stock(), 1152 - 4);
        ToolrestMill narrow = ran(Check.withEnds(), "t 0 0,s 1,g 2 2 9,p 0 3 4");
        check.due("place", place(narrow), "2 5 9");
        check.due("taken", narrow.stock(), 1152 - 4);
        ToolrestMill flat = ran(Check.withEnds(), "t 0 0,s 1,p 0 0 0");
        check.due("no step", flat.done() + " " + flat.time(), "3 0.0");
        ToolrestMill whole = ran(Check.withEnds(), "t 0 0,s 1,p 15 11 9");
        check.due("a cutter of 999 goes on to the end", whole.used(0, 0) + " " + whole.stock(), "1152 0");
    }

    private static void probing() {
        ToolrestMill mill = ran(Check.withEnds(), "t 0 0,x 0,s 1,g 5 5 9,d 7 7,x 1,s 0,t 0 1,x 2,s 1,d 5 5,x 3");
        check.due("on the stock", mill.variable(0), 6);
        check.due("in the hole", mill.variable(1), 2);
        check.due("a wider one on the stock", mill.variable(2), 6);
        check.due("a wider one in the hole", mill.variable(3), 4);
        ToolrestMill aside = ran(Check.withEnds(), "t 0 0,s 1,g 9 2 9,d 7 7,x 0,g 9 3 9,x 1");
        check.due("aside", aside.variable(0) + " " + aside.variable(1), "2 6");
        ToolrestMill last = ran(Check.withEnds(), "t 0 0,s 1,d 8 8,x 0");
        check.due("on the lowest layer", last.variable(0), 1);
        ToolrestMill through = ran(Check.withEnds(), "t 0 0,s 1,d 9 9,x 0,l 0 0 0,x 1");
        check.due("through", through.variable(0), 0);
        check.due("at 0 already", through.variable(1), 0);
        ToolrestMill point = new ToolrestMill();
        point.putCutter(2, 0, 'v', 3, 999);
        point.putCutter(0, 0, 'e', 1, 999);
        ran(point, "t 0 0,s 1,g 8 8 9,l 8 8 2,g 8 8 9,s 0,t 2 0,x 107,x 1");
        check.due("a point goes in as far as its flanks let it", point.variable(1), 4);
        check.due("the number of the variable by a variable", point.variable(0), 4);
    }

    private static void changing() {
        ToolrestMill mill = new ToolrestMill();
        mill.putCutter(2, 0, 'e', 0, 1);
        mill.putCutter(2, 1, 'e', 1, 999);
        mill.putCutter(2, 2, 'b', 0, 999);
        mill.putCutter(2, 3, 'e', 0, 2);
        mill.putCutter(1, 0, 'b', 0, 999);
        Check.add(mill, "t 2 0", "s 1", "l 0 0 5", "s 0", "t 2 0", "s 1", "l 0 0 3", "s 0", "t 2 0");
        mill.run(2);
        check.due("the one told", mill.cutter(), 8);
        mill.run(3);
        check.due("the one behind with the same shape and radius", mill.cutter(), 11);
        check.due("uses", mill.used(2, 0) + " " + mill.used(2, 3), "1 0");
        mill.run(100);
        check.due("all are worn", mill.alarm() + " " + mill.next(), "w 8");
        check.due("uses", mill.used(2, 0) + " " + mill.used(2, 3), "1 2");
        ToolrestMill ahead = new ToolrestMill();
        ahead.putCutter(0, 0, 'e', 0, 9);
        ahead.putCutter(0, 1, 'e', 0, 1);
        ran(ahead, "t 0 1,s 1,l 0 0 5,s 0,t 0 1");
        check.due("none ahead is taken", ahead.alarm(), 'w');
        ToolrestMill lowest = new ToolrestMill();
        lowest.putCutter(0, 0, 'e', 0, 1);
        lowest.putCutter(0, 1, 'e', 0, 7);
        lowest.putCutter(0, 2, 'e', 0, 7);
        ran(lowest, "t 0 0,s 1,l 0 0 5,s 0,t 0 0");
        check.due("the lowest one behind", lowest.cutter(), 1);
    }

    private static void settings() {
        ToolrestMill mill = Check.withEnds("t 0 0", "s 1", "l 1 0 9", "f 50", "l 2 0 9", "f 1", "l 3 0 9", "g 0 0 9");
        mill.run(3);
        check.due("feed 10", mill.time(), 0.1f);
        mill.run(2);
        check.due("feed 50", mill.time(), 0.1f + 1f / 50f);
        mill.run(2);
        check.due("feed 1", mill.time(), 0.1f + 1f / 50f + 1f);
        mill.run(1);
        check.due("a move that is no cut", mill.time(), 0.1f + 1f / 50f + 1f + 3f * 0.01f);
    }

    private static void alarmN() {
        for (String block : "s 2,s -1,m 2,m -1,o 4,o -1,f 0,f -1,v 8,v -1,x 8,x -1,r 10,r -1".split(",")) {
            alarm('n', 0, block.startsWith("r") ? block + ",e" : block);
        }
        for (String block : "s 0,s 1,m 0,m 1,o 0,o 3,f 1,f 50,v 0,v 7,r 0,r 9".split(",")) {
            ToolrestMill mill = ran(Check.withEnds(), block.startsWith("r") ? block + ",e" : block);
            check.due(block, mill.alarm(), '-');
        }
        for (String block : "t 3 0,t -1 0,t 0 4,t 0 -1,t 0 2,t 1 0,t 2 3".split(",")) {
            alarm('n', 0, block);
        }
        for (String block : "d -1 1,d 1 0,d 1 -1,p -1 0 0,p 0 -1 0,p 0 0 -1".split(",")) {
            alarm('n', 2, "t 0 0,s 1," + block);
        }
        alarm('n', 0, "d -1 1");
        alarm('n', 0, "x 9");
        alarm('n', 2, "t 0 0,s 1,t 2 0");
        alarm('n', 1, "v 1 2 0,s 101");
    }

    private static void alarmsTAndW() {
        alarm('t', 2, "t 0 0,s 1,t 0 1");
        alarm('t', 1, "s 1,t 0 0");
        ToolrestMill mill = new ToolrestMill();
        mill.putCutter(0, 0, 'e', 0, 2);
        ran(mill, "t 0 0,s 1,l 0 0 5,l 0 0 4,t 0 0");
        check.due("not worn by less than its life; t before w", mill.alarm() + " " + mill.next(), "t 4");
        mill.dropBlock();
        Check.add(mill, "s 0", "l 0 0 -5");
        mill.run(100);
        check.due("w before s and l", mill.alarm() + " " + mill.next(), "w 5");
        mill.dropBlock();
        Check.add(mill, "g 0 0 9", "x 1", "v 2 1 0", "d 0 1");
        mill.run(100);
        check.due("a worn one may move and probe", mill.alarm() + " " + mill.next(), "w 8");
        check.due("probe", mill.variable(1), 4);
        mill.dropBlock();
        mill.addBlock('p', 0, 0, 0);
        mill.run(100);
        check.due("a pocket without steps", mill.alarm() + " " + mill.next(), "w 8");
        ToolrestMill midway = new ToolrestMill();
        midway.putCutter(0, 0, 'e', 0, 1);
        ran(midway, "t 0 0,s 1,l 0 0 0,l 0 0 0");
        check.due("worn at the beginning alone", midway.used(0, 0) + " " + midway.alarm() + " " + midway.next(), "6 w 3");
    }

    private static void alarmS() {
        alarm('s', 0, "l 0 0 9");
        alarm('s', 1, "s 1,l 0 0 9");
        alarm('s', 1, "t 0 0,l 0 0 -1");
        alarm('s', 1, "t 0 0,d 0 1");
        alarm('s', 1, "t 0 0,p 0 0 0");
        alarm('s', 1, "s 1,x 0");
        alarm('-', 2, "t 0 0,x 0");
        alarm('-', 1, "g 0 0 0");
        alarm('s', 3, "t 0 0,s 1,s 0,l 1 1 9");
    }

    private static void alarmL() {
        for (String move : "g 16 0 9,g -1 0 9,g 0 12 9,g 0 -1 9,g 0 0 10,g 0 0 -1,g 50 50 50".split(",")) {
            alarm('l', 0, move);
        }
        for (String move : "l 16 0 5,l 0 12 5,l 0 0 10,l 0 0 -1,d 10 1,d 10 50,p 16 0 0,p 0 12 0,p 0 0 10,p 50 50 50".split(",")) {
            alarm('l', 2, "t 0 1,s 1," + move);
        }
        for (String move : "l 15 0 9,l 0 11 9,l 0 0 0,d 9 1,p 15 0 0,p 0 11 0,p 0 0 9".split(",")) {
            alarm('-', 3, "t 0 1,s 1," + move);
        }
        ToolrestMill mill = Check.withEnds();
        mill.setFixture(0, 0, 5, true);
        ran(mill, "t 0 0,s 1,l 0 0 -1");
        check.due("l before c", mill.alarm(), 'l');
    }

    private static void alarmC() {
        alarm('c', 1, "t 0 0,g 0 0 5");
        alarm('-', 2, "t 0 0,g 0 0 6");
        alarm('-', 1, "g 0 0 5");
        alarm('-', 5, "t 0 0,s 1,l 5 5 0,g 5 5 6,g 5 5 0");
        alarm('-', 4, "t 0 1,s 1,l 5 5 5,g 5 5 5");
        alarm('c', 6, "t 0 0,s 1,l 5 5 4,g 5 5 9,s 0,t 0 1,g 5 5 5");
        alarm('-', 7, "t 0 1,s 1,l 5 5 4,g 5 5 9,s 0,t 0 0,g 5 5 4");
        alarm('c', 3, "t 0 1,s 1,l 5 5 5,g 5 6 5");
        ToolrestMill mill = Check.withEnds();
        mill.setFixture(4, 2, 3, true);
        ran(mill, "t 0 0,s 1,g 2 2 9,l 2 2 4,l 6 2 4,l 2 2 4,l 2 2 3,l 3 2 3,l 4 2 3");
        check.due("up to the fixture", mill.alarm() + " " + mill.next() + " " + place(mill), "c 8 3 2 3");
        check.due("the fixture is stock", mill.has(4, 2, 3), true);
        ToolrestMill above = Check.withEnds();
        above.setFixture(4, 2, 4, true);
        ran(above, "t 0 0,s 1,g 4 2 9,d 6 3");
        check.due("a drill", above.alarm() + " " + above.stock() + " " + above.time(), "c 1152 0.04");
        ToolrestMill beside = Check.withEnds();
        beside.setFixture(5, 4, 5, true);
        ran(beside, "t 0 0,s 1,g 2 2 9,p 3 2 4");
        check.due("a pocket", beside.alarm() + " " + beside.stock(), "c 1152");
        beside.setFixture(5, 4, 5, false);
        beside.run(100);
        check.due("no fixture any more", beside.alarm(), '-');
    }

    private static void alarmX() {
        alarm('x', 5, "t 0 0,s 1,l 5 5 4,s 0,t 0 1,x 0");
        alarm('-', 6, "t 0 1,s 1,l 5 5 4,s 0,t 0 0,x 0");
        alarm('x', 5, "t 0 0,s 1,l 9 2 4,s 0,t 0 1,x 0");
        alarm('-', 7, "t 0 1,s 1,l 9 2 4,s 0,t 0 0,x 0,x 7");
        alarm('s', 1, "g 0 0 3,x 0");
    }

    private static void alarmDoesNothing() {
        ToolrestMill mill = Check.withEnds();
        mill.setFixture(6, 3, 5, true);
        Check.add(mill, "t 0 0", "s 1", "l 2 3 5", "l 6 3 5");
        mill.run(3);
        String before = Check.state(mill).replace(" - ", " c ");
        mill.run(1);
        check.due("a cut that gives an alarm", Check.state(mill), before);
    }
}
