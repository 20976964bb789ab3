/**
 * The document's beginning and its terms, from the first line to the clarifications: each sentence as it stands there, with
 * calls that it decides. The promises follow in DocumentPromisesTest.
 */
public final class DocumentTermsTest {
    private interface Put {
        Object to(ToolrestMill mill);
    }

    private static final Class<IndexOutOfBoundsException> BOUNDS = IndexOutOfBoundsException.class;
    private static final Class<IllegalArgumentException> ARGUMENT = IllegalArgumentException.class;

    private static final Check check = new Check();

    public static void main(String[] args) {
        whatItIs();
        toldAndAsked();
        space();
        cutters();
        reach();
        wear();
        programs();
        closedPrograms();
        running();
        singleMoves();
        placesOfMoves();
        fastMovesAndCuts();
        drills();
        pockets();
        changes();
        settings();
        variablesAndProbes();
        partsAndStops();
        alarms();
        severalAlarms();
        times();
        exceptions();
        clarifications();
        check.end();
    }

    /** One run through all kinds of blocks; what is due was found with a pencil. */
    private static void whatItIs() {
        check.sentence("A milling house: cutters of three shapes stand in racks, blocks make a program with moves, cycles, variables, "
                + "repeats and branches, a controller carries blocks out one by one, with alarms, stops and probes, and stock is cut in cells.");
        ToolrestMill mill = new ToolrestMill();
        mill.putCutter(0, 0, 'e', 0, 999);
        mill.putCutter(1, 0, 'b', 1, 999);
        mill.putCutter(2, 0, 'v', 1, 999);
        Check.add(mill, "t 0 0", "s 1", "f 20", "g 2 2 6", "l 4 2 5", "r 2", "v 0 100 3", "i 100 3", "q", "e", "e", "d 2 1", "x 1",
                "s 0", "t 1 0", "s 1", "p 1 1 1", "m 1", "o 1", "l 0 0 -4", "g 9 0 0");
        check.due("up to the stop", mill.run(100) + " " + mill.alarm() + " " + mill.next() + " " + mill.variable(0), "12 - 9 6");
        check.due("an end in a row", mill.used(0, 0) + " " + Check.place(mill), "1 4 2 5");
        check.due("up to the probe", mill.run(4) + " " + mill.used(0, 0) + " " + mill.variable(1) + " " + mill.height(4, 2), "4 3 3 3");
        check.due("up to the pocket", mill.run(4) + " " + mill.cutter() + " " + mill.used(1, 0) + " " + Check.place(mill), "4 4 14 4 3 5");
        check.due("up to the alarm", mill.run(100) + " " + mill.alarm() + " " + mill.next() + " " + mill.done(), "3 c 20 23");
        check.due("cut", mill.used(1, 0) + " " + mill.stock() + " " + Check.place(mill) + " " + mill.isSound(), "26 1123 4 3 1 true");
        float time = 3f * (1f / 100f);
        for (int steps : new int[] {2, 1, 2, 1, 1, 1, 1, 4}) {
            time += (float) steps * (1f / 20f);
        }
        check.due("time", mill.time(), time);
        check.due("mean", mill.meanUse(), 29.0 / 3.0);
    }

    private static void toldAndAsked() {
        check.sentence("Cutters, fixtures, offsets, blocks and runs come by calls; places, variables, alarms, cells, uses and times are asked.");
        ToolrestMill mill = Check.withEnds("v 0 7 0", "t 0 1", "s 1", "l 3 3 4", "f 0");
        check.due("nothing runs by itself", Check.state(mill), Check.state(Check.withEnds("v 0 7 0", "t 0 1", "s 1", "l 3 3 4", "f 0")));
        check.due("no block was carried out", mill.done() + " " + mill.stock(), "0 1152");
        mill.run(100);
        String told = Check.state(mill);
        for (int time = 0; time < 3; time++) {
            check.due("asking tells nothing", Check.state(mill), told);
        }
        check.sentence("What is cut is the same by running in parts and from nothing.");
        ToolrestMill parts = Check.withEnds("v 0 7 0", "t 0 1", "s 1", "l 3 3 4", "f 0");
        for (int time = 0; time < 4; time++) {
            parts.run(1);
        }
        check.due("block by block", parts.checksum() + " " + parts.timeBits(), mill.checksum() + " " + mill.timeBits());
        for (int i = 0; i < 192; i++) {
            check.due("from nothing", parts.hasAnew(i % 16, i / 16, 4), mill.has(i % 16, i / 16, 4));
        }
    }

    private static void space() {
        check.sentence("The stock lies in cells with an x from 0 to 15, a y from 0 to 11 and a z from 0 to 5; all of these are stock at "
                + "first, and each is fixture or not, none at first.");
        for (int z = -1; z <= 6; z++) {
            ToolrestMill mill = new ToolrestMill();
            ToolrestMill fixtures = new ToolrestMill();
            for (int y = -1; y <= 12; y++) {
                for (int x = -1; x <= 16; x++) {
                    int[] at = {x, y, z};
                    boolean isCell = x >= 0 && x < 16 && y >= 0 && y < 12 && z >= 0 && z < 6;
                    String what = x + " " + y + " " + z;
                    check.due(what, Check.thrownBy(() -> mill.has(at[0], at[1], at[2])), isCell ? null : IndexOutOfBoundsException.class);
                    if (isCell) {
                        check.due(what + " is stock", mill.has(x, y, z), true);
                        check.due(what + " is no fixture", fixtures.setFixture(x, y, z, true), false);
                        check.due(what + " is one then", fixtures.setFixture(x, y, z, true), true);
                    }
                }
            }
        }
        check.sentence("The cutter has a place with an x and a y like these and a z from 0 to 9; it is at 0, 0, 9 at first.");
        check.due("first", Check.place(new ToolrestMill()), "0 0 9");
        for (int place = 0; place < 1920; place++) {
            String to = place % 16 + " " + place / 16 % 12 + " " + place / 192;
            check.due("to " + to, Check.place(Check.ran(new ToolrestMill(), "g " + to)), to);
        }
    }

    private static void cutters() {
        check.sentence("There are the racks 0, 1 and 2, each with the places 0 to 3, which are empty at first.");
        for (int rack = -1; rack <= 3; rack++) {
            for (int place = -1; place <= 4; place++) {
                int[] at = {rack, place};
                boolean isThere = rack >= 0 && rack < 3 && place >= 0 && place < 4;
                check.dueThrow("used(" + rack + ", " + place + ")",
                        isThere ? java.util.NoSuchElementException.class : IndexOutOfBoundsException.class,
                        () -> new ToolrestMill().used(at[0], at[1]));
            }
        }
        check.sentence("A cutter has a shape, 'e' an end, 'b' a ball or 'v' a point, a radius from 0 to 3, and a life from 1 to 999.");
        for (char shape : "ebv".toCharArray()) {
            for (int radius = 0; radius <= 3; radius++) {
                for (int life : new int[] {1, 2, 500, 998, 999}) {
                    check.due(shape + " " + radius + " " + life, new ToolrestMill().putCutter(2, 1, shape, radius, life), 1);
                }
            }
        }
        check.sentence("The rack 0 takes ends alone, the rack 1 balls alone.");
        check.due("an end in 0", new ToolrestMill().putCutter(0, 0, 'e', 1, 1), 1);
        check.due("a ball in 1", new ToolrestMill().putCutter(1, 0, 'b', 1, 1), 1);
        for (String other : "0b,0v,1e,1v".split(",")) {
            check.dueThrow(other, UnsupportedOperationException.class,
                    () -> new ToolrestMill().putCutter(other.charAt(0) - '0', 0, other.charAt(1), 1, 1));
        }
    }

    /** Straight down at a place: a higher place reaches no cell that the lowest one doesn't. */
    private static void reach() {
        check.sentence("At a place X, Y, Z a cutter with the radius r reaches cells i, j, k with k not less than Z; with the square q of "
                + "the distance of i, j to X, Y, and the height h, which is k less Z: an end reaches the cell if q is at most r times r; "
                + "a ball, if q plus the square of r less h, or plus 0 if h is greater than r, is at most r times r; a point, if q is at "
                + "most the square of the lesser one of h and r.");
        for (int turn = 0; turn < 12; turn++) {
            char shape = "ebv".charAt(turn % 3);
            int r = turn / 3;
            for (int z = 0; z <= 6; z++) {
                for (int k = 0; k < 6; k++) {
                    layerAt(shape, r, 7, 5, z, k);
                    layerAt(shape, r, 1, 10, z, k);
                }
            }
        }
    }

    private static void layerAt(char shape, int r, int x, int y, int z, int k) {
        ToolrestMill mill = new ToolrestMill();
        mill.putCutter(2, 2, shape, r, 999);
        Check.ran(mill, "t 2 2,s 1,g " + x + " " + y + " 9,l " + x + " " + y + " " + z);
        for (int i = 0; i < 16; i++) {
            for (int j = 0; j < 12; j++) {
                boolean isReached = isReached(shape, r, (i - x) * (i - x) + (j - y) * (j - y), k - z);
                check.due(shape + " " + r + " at " + x + " " + y + " " + z + ", cell " + i + " " + j + " " + k,
                        mill.has(i, j, k), !isReached);
            }
        }
    }

    private static boolean isReached(char shape, int r, int q, int h) {
        if (h < 0) {
            return false;
        }
        switch (shape) {
            case 'e':
                return q <= r * r;
            case 'b':
                return q + (h > r ? 0 : (r - h) * (r - h)) <= r * r;
            default:
                return h < r ? q <= h * h : q <= r * r;
        }
    }

    private static void wear() {
        check.sentence("Its use is the number of cells that it took; it is worn if this is not less than its life.");
        for (int life = 1; life <= 40; life++) {
            ToolrestMill mill = new ToolrestMill();
            mill.putCutter(0, 0, 'e', 0, life);
            Check.add(mill, "t 0 0", "s 1", "l 0 0 5", "r 9", "m 1", "l 4 0 0", "m 0", "v 0 100 1", "l 0 100 5", "e");
            char alarm = '-';
            for (int block = 0; block < 64 && alarm == '-'; block++) {
                int next = mill.next();
                boolean isCut = next == 2 || next == 5 || next == 8;
                int before = mill.used(0, 0);
                mill.run(1);
                alarm = mill.alarm();
                check.due("block " + next + " and the life " + life, alarm, isCut && before >= life ? 'w' : '-');
                check.due("cells by block " + next, mill.used(0, 0) > before, isCut && alarm == '-');
            }
            check.due("use", mill.used(0, 0), 1152 - mill.stock());
            check.due("worn by " + life, mill.alarm() + " " + (mill.used(0, 0) >= life), "w true");
        }
    }

    private static void programs() {
        check.sentence("A program has at most 64 blocks, numbered from 0, each with a kind and three terms, a, b and c.");
        ToolrestMill mill = new ToolrestMill();
        for (int block = 0; block < 64; block++) {
            check.due("number", mill.addBlock("gvq".charAt(block % 3), block % 3 == 1 ? 7 : block % 10, block % 12, 9 - block % 4), block);
        }
        check.dueThrow("one more", IllegalStateException.class, () -> mill.addBlock('q', 0, 0, 0));
        for (int block = 0; block < 64; block++) {
            check.due("next", mill.next(), block);
            mill.run(1);
            if (block % 3 == 0) {
                check.due("a, b and c of block " + block, Check.place(mill), block % 10 + " " + block % 12 + " " + (9 - block % 4));
            } else if (block % 3 == 1) {
                check.due("b and c of block " + block, mill.variable(7), block % 12 + 9 - block % 4);
            }
        }
        check.sentence("A term is a number from -50 to 50, or a variable, told as 100 plus its number, 0 to 7.");
        for (int number = -50; number <= 50; number++) {
            ToolrestMill sum = Check.ran(new ToolrestMill(), "v 6 " + number + " 0,v 1 106 0,v 2 0 101");
            check.due("number " + number, sum.variable(6) + " " + sum.variable(1) + " " + sum.variable(2),
                    number + " " + number + " " + number);
        }
        for (int variable = 0; variable < 8; variable++) {
            String term = " " + (100 + variable);
            ToolrestMill all = Check.ran(new ToolrestMill(), "v " + variable + " 3 0,g" + term + term + term);
            check.due("variable " + variable, Check.place(all), "3 3 3");
        }
        check.sentence("Offsets 0 to 3 have an x, a y and a z, 0 at first.");
        for (int offset = 0; offset < 4; offset++) {
            ToolrestMill offsets = Check.ran(new ToolrestMill(), "o " + offset + ",g 1 2 3");
            check.due("at first", Check.place(offsets), "1 2 3");
            check.due("x at first", offsets.setOffset(offset, 4, 5, 6), 0);
            offsets.run(100);
            check.due("x, y and z", Check.place(offsets), "5 7 9");
        }
    }

    private static void closedPrograms() {
        check.sentence("'r' and 'i' open a part, 'e' closes the one that was opened last; a program is closed if each 'e' closes a part, "
                + "each part is closed, and at most 3 are open at once.");
        for (int length = 0; length <= 6; length++) {
            for (int number = 0; number < 1 << 2 * length; number++) {
                closedness(length, number, 2, "rieq");
            }
        }
        for (int length = 7; length <= 10; length++) {
            for (int number = 0; number < 1 << length; number++) {
                closedness(length, number, 1, number % 7 == 0 ? "ie" : "re");
            }
        }
    }

    private static void closedness(int length, int number, int bits, String kinds) {
        ToolrestMill mill = new ToolrestMill();
        StringBuilder text = new StringBuilder();
        int open = 0;
        boolean isClosed = true;
        for (int i = 0; i < length; i++) {
            char kind = kinds.charAt(number >> bits * i & (1 << bits) - 1);
            text.append(kind);
            mill.addBlock(kind, 0, 0, 0);
            open += kind == 'e' ? -1 : kind == 'q' ? 0 : 1;
            isClosed &= open >= 0 && open <= 3;
        }
        isClosed &= open == 0;
        check.due(text + " is closed", mill.isClosed(), isClosed);
        check.due(text + " throws", Check.thrownBy(() -> mill.run(1)), isClosed ? null : IllegalStateException.class);
    }

    private static void running() {
        check.sentence("A run begins with the block 0, all variables 0, absolute places, the offset 0, no cutter, the spindle off, and the feed 10.");
        ToolrestMill mill = Check.withEnds("v 7 100 5", "g 2 2 9", "g 1 2 9", "t 0 0", "s 1", "l 3 3 9", "m 1", "o 1", "f 1", "v 0 9 9");
        mill.setOffset(0, 1, 1, 0);
        mill.setOffset(1, 9, 9, 0);
        for (int time = 0; time < 3; time++) {
            check.due("begun", mill.next() + " " + mill.cutter() + " " + mill.variable(0) + " " + mill.variable(7), "0 -1 0 0");
            mill.run(3);
            check.due("absolute, offset 0", Check.place(mill) + " " + mill.variable(7), "2 3 9 5");
            float before = mill.time();
            mill.run(3);
            check.due("feed 10", mill.time() + " " + Check.place(mill), before + 2f * (1f / 10f) + " 4 4 9");
            mill.run(100);
            mill.reset();
        }
        check.due("no cutter at first", Check.ran(Check.withEnds(), "s 1,l 0 0 9").alarm(), 's');
        check.due("spindle off at first", Check.ran(Check.withEnds(), "t 0 0,l 0 0 9").alarm(), 's');
        check.sentence("Blocks are carried out one behind the other.");
        ToolrestMill order = Check.program("v 0 1 0", "v 0 100 100", "v 0 100 3", "v 0 100 100", "v 0 100 -1");
        for (int due : new int[] {1, 2, 5, 10, 9}) {
            check.due("one block", order.run(1) + " " + order.variable(0), "1 " + due);
        }
        check.sentence("A block that gives an alarm does nothing; the run stays at it.");
        ToolrestMill alarmed = Check.ran(Check.withEnds(), "t 0 1,s 1,l 2 2 5,l 9 9 -1,v 0 1 0");
        String state = Check.state(alarmed);
        check.due("at the alarm", alarmed.alarm() + " " + alarmed.next() + " " + alarmed.variable(0) + " " + Check.place(alarmed), "l 3 0 2 2 5");
        alarmed.run(100);
        check.due("still", Check.state(alarmed), state);
        check.sentence("The run is over behind the last block.");
        check.due("over", order.isOver() + " " + order.next() + " " + order.run(1), "true 5 0");
        check.due("not over", alarmed.isOver(), false);
        check.sentence("The terms are what they are when the block is carried out.");
        ToolrestMill terms = Check.ran(new ToolrestMill(), "r 4,g 100 101 9,v 0 100 2,v 1 100 -1,e");
        check.due("place", Check.place(terms) + " " + terms.variable(0) + " " + terms.variable(1), "6 5 9 8 7");
    }

    /** Along x and y in the uppermost layer, and along x and z: all differences there are. */
    private static void singleMoves() {
        check.sentence("A move goes from the place to another one, in as many steps as the greatest one of the three differences, without "
                + "sign; behind k of n steps, each number is that of the beginning plus the difference times k divided by n, rounded toward 0.");
        for (int dx = -7; dx <= 8; dx++) {
            for (int dy = -6; dy <= 5; dy++) {
                level(7, 6, dx, dy);
            }
        }
        for (int d = -11; d <= 11; d++) {
            for (int dx = -15; dx <= 15; dx += 15) {
                level(dx < 0 ? 15 : 0, d < 0 ? 11 : 0, dx, d);
            }
        }
        for (int dx = -7; dx <= 8; dx++) {
            for (int z = 0; z <= 9; z++) {
                for (int dz = -z; dz <= 9 - z; dz++) {
                    int n = Math.max(Math.abs(dx), Math.abs(dz));
                    ToolrestMill mill = Check.ran(new ToolrestMill(), "g 7 3 " + z + ",g " + (7 + dx) + " 3 " + (z + dz));
                    float first = (float) Math.max(7, 9 - z) * 0.01f;
                    check.due(n + " steps by " + dx + " and " + dz, mill.time(), first + (float) n * 0.01f);
                }
            }
        }
        ToolrestMill down = Check.ran(Check.withEnds(), "t 0 0,s 1,g 3 3 6,l 11 6 1");
        int[][] due = {{3, 3, 6}, {4, 3, 6}, {5, 3, 5}, {6, 4, 5}, {7, 4, 4}, {8, 4, 3}, {9, 5, 3}, {10, 5, 2}, {11, 6, 1}};
        for (int[] column : due) {
            check.due("all three numbers, at " + column[0], down.height(column[0], column[1]), column[2]);
        }
    }

    private static void level(int x, int y, int dx, int dy) {
        ToolrestMill mill = Check.withEnds("t 0 0", "s 1", "g " + x + " " + y + " 9", "g " + x + " " + y + " 6", "m 1", "l 0 0 -1",
                "l " + dx + " " + dy + " 0");
        mill.run(6);
        float before = mill.time();
        mill.run(1);
        int n = Math.max(Math.abs(dx), Math.abs(dy));
        String what = "from " + x + " " + y + " by " + dx + " " + dy;
        check.due(what + ", cells", mill.used(0, 0), n + 1);
        for (int k = 1; k <= n; k++) {
            int i = x + Integer.signum(dx) * (Math.abs(dx) * k / n);
            int j = y + Integer.signum(dy) * (Math.abs(dy) * k / n);
            check.due(what + ", step " + k, mill.has(i, j, 5), false);
        }
        check.due(what + ", time", mill.time(), before + (float) n * (1f / 10f));
    }

    private static void placesOfMoves() {
        check.sentence("'g' and 'l' move to the place a, b, c, plus the offset if places are absolute, or plus the place itself otherwise.");
        for (char kind : "gl".toCharArray()) {
            ToolrestMill mill = Check.withEnds("t 0 0", "s 1", kind + " 1 2 6", "o 2", kind + " 1 2 6", "m 1", kind + " 1 2 -1",
                    kind + " -2 0 1", "o 3", kind + " 0 1 0", "m 0", kind + " 0 0 7");
            mill.setOffset(0, 1, 1, 1);
            mill.setOffset(2, 3, 4, 2);
            mill.setOffset(3, 11, 2, -1);
            String[] due = {"0 0 9", "0 0 9", "2 3 7", "2 3 7", "4 6 8", "4 6 8", "5 8 7", "3 8 8", "3 8 8", "3 9 8", "3 9 8", "11 2 6"};
            for (int block = 0; block < due.length; block++) {
                mill.run(1);
                check.due(kind + ", behind block " + block, Check.place(mill) + " " + mill.alarm(), due[block] + " -");
            }
        }
    }

    private static void fastMovesAndCuts() {
        check.sentence("'g' must reach neither stock nor fixture behind any step.");
        String groove = "t 0 0,s 1,g 3 3 6,l 3 3 5,l 9 3 5,";
        check.due("through the groove", Check.ran(Check.withEnds(), groove + "g 3 3 5").alarm(), '-');
        check.due("beside the groove", Check.ran(Check.withEnds(), groove + "g 3 4 5").alarm(), 'c');
        check.due("through stock to a place without", Check.ran(Check.withEnds(), groove + "g 9 3 9,g 9 9 9,l 9 9 5,g 9 3 5").alarm(), 'c');
        for (int x = 0; x < 16; x++) {
            ToolrestMill fixture = Check.withEnds();
            fixture.setFixture(x, 3, 4, true);
            Check.ran(fixture, groove + "g 3 3 5,m 1,g 0 0 -1");
            check.due("down to a fixture or stock", fixture.alarm() + " " + fixture.next(), "c 7");
        }
        check.sentence("A cut, as by 'l', takes all stock cells that the cutter reaches behind each step, and must reach no fixture.");
        ToolrestMill wide = Check.ran(Check.withEnds(), "t 0 1,s 1,g 3 3 6,l 3 3 5,l 6 3 5");
        check.due("a row with the radius 1", wide.used(0, 1) + " " + wide.stock(), "14 1138");
        for (int i = 0; i < 192; i++) {
            int x = i % 16;
            int off = Math.abs(i / 16 - 3);
            boolean isTaken = off == 0 && x >= 2 && x <= 7 || off == 1 && x >= 3 && x <= 6;
            check.due("cell " + x + " " + i / 16, wide.has(x, i / 16, 5), !isTaken);
            ToolrestMill fixture = Check.withEnds();
            fixture.setFixture(x, i / 16, 5, true);
            Check.ran(fixture, "t 0 1,s 1,g 3 3 6,l 3 3 5,l 6 3 5");
            check.due("with a fixture at " + x + " " + i / 16, fixture.alarm(), isTaken ? 'c' : '-');
            check.due("the fixture stays", fixture.has(x, i / 16, 5), true);
        }
    }

    private static void drills() {
        check.sentence("'d' makes cuts from the place straight down, the first one by b, the second one by twice b, and so on, and the last "
                + "one by a, where no other one is as long or longer; behind each of them, the cutter is at the place again, without a move.");
        for (int a = 0; a <= 9; a++) {
            for (int b = 1; b <= 11; b++) {
                ToolrestMill mill = Check.ran(Check.withEnds(), "t 0 0,s 1,f 3,g 6 6 9,d " + a + " " + b);
                float time = 6f * 0.01f;
                for (int length = b; length < a; length += b) {
                    time += (float) length * (1f / 3f);
                }
                time += (float) a * (1f / 3f);
                check.due("d " + a + " " + b, mill.time() + " " + Check.place(mill) + " " + mill.alarm(), time + " 6 6 9 -");
                check.due("height", mill.height(6, 6) + " " + mill.stock(), Math.min(6, 9 - a) + " " + (1146 + Math.min(6, 9 - a)));
            }
        }
    }

    private static void pockets() {
        check.sentence("'p' makes a cut down by c, then one by a to greater x, and then, b times, one by 1 to greater y and one by a along "
                + "x, to lesser x and to greater x in turns; then the cutter is up by c again, without a move.");
        for (int a = 0; a <= 5; a++) {
            for (int b = 0; b <= 5; b++) {
                for (int c = 0; c <= 4; c++) {
                    pocket(a, b, c);
                }
            }
        }
    }

    private static void pocket(int a, int b, int c) {
        ToolrestMill mill = Check.withEnds("t 0 0", "s 1", "f 7", "g 4 3 6", "p " + a + " " + b + " " + c);
        mill.run(4);
        float time = mill.time();
        time += (float) c * (1f / 7f);
        time += (float) a * (1f / 7f);
        for (int turn = 0; turn < b; turn++) {
            time += 1f / 7f;
            time += (float) a * (1f / 7f);
        }
        mill.run(1);
        String what = "p " + a + " " + b + " " + c;
        check.due(what, mill.time() + " " + Check.place(mill) + " " + mill.alarm(),
                time + " " + (b % 2 == 0 ? 4 + a : 4) + " " + (3 + b) + " 6 -");
        check.due(what + ", cells", mill.used(0, 0), (a + 1) * (b + 1) * c);
        for (int i = 0; i < 192; i++) {
            boolean isIn = i % 16 >= 4 && i % 16 <= 4 + a && i / 16 >= 3 && i / 16 <= 3 + b;
            check.due(what + ", column " + i % 16 + " " + i / 16, mill.height(i % 16, i / 16), isIn ? 6 - c : 6);
        }
    }

    private static void changes() {
        check.sentence("'t' takes the cutter of the rack a and the place b; if it is worn, the one with the lowest place behind it in this "
                + "rack that has the same shape and radius and is not worn.");
        ToolrestMill mill = new ToolrestMill();
        mill.putCutter(2, 0, 'v', 0, 1);
        mill.putCutter(2, 1, 'v', 1, 9);
        mill.putCutter(2, 2, 'v', 0, 1);
        mill.putCutter(2, 3, 'v', 0, 9);
        mill.putCutter(1, 3, 'b', 0, 9);
        Check.add(mill, "r 3", "s 0", "t 2 0", "s 1", "v 0 100 1", "l 100 0 5", "e", "s 0", "t 2 2", "t 2 1", "t 1 3");
        int[] due = {8, 10, 11};
        for (int round = 0; round < 3; round++) {
            mill.run(round == 0 ? 3 : 6);
            check.due("round " + round, mill.cutter(), due[round]);
        }
        mill.run(6);
        for (int cutter : new int[] {11, 9, 7}) {
            check.due("behind the rounds", mill.cutter(), cutter);
            mill.run(1);
        }
        check.due("over", mill.isOver(), true);
    }

    private static void settings() {
        check.sentence("'s' sets the spindle, 0 off or 1 on; 'f' the feed, 1 to 50; 'm' the places, 0 absolute or 1 stepwise; 'o' the offset, 0 to 3.");
        check.due("spindle on", Check.ran(Check.withEnds(), "t 0 0,s 1,l 0 0 8").alarm(), '-');
        check.due("spindle off", Check.ran(Check.withEnds(), "t 0 0,s 1,s 0,l 0 0 8").alarm(), 's');
        for (int feed = 1; feed <= 50; feed++) {
            check.due("feed " + feed, Check.ran(Check.withEnds(), "t 0 0,s 1,f " + feed + ",l 1 0 9").time(), 1f / (float) feed);
        }
        check.due("absolute", Check.place(Check.ran(new ToolrestMill(), "m 0,g 2 2 2,g 2 2 2")), "2 2 2");
        check.due("stepwise", Check.place(Check.ran(new ToolrestMill(), "m 1,g 2 2 -2,g 2 2 -2")), "4 4 5");
        for (int offset = 0; offset < 4; offset++) {
            ToolrestMill mill = new ToolrestMill();
            mill.setOffset(offset, 2, 3, 1);
            Check.ran(mill, "o " + offset + ",g 1 1 1,o " + (offset + 1) % 4 + ",g 1 1 1");
            check.due("another offset", Check.place(mill), "1 1 1");
            mill.dropBlock();
            mill.run(100);
            check.due("offset " + offset, Check.place(mill), "3 4 2");
        }
    }

    private static void variablesAndProbes() {
        check.sentence("'v' makes the variable with the number a what b plus c is, cut to -50 to 50.");
        for (int b = -50; b <= 50; b += 5) {
            for (int c = -50; c <= 50; c++) {
                int sum = b + c > 50 ? 50 : b + c < -50 ? -50 : b + c;
                check.due("v 5 " + b + " " + c, Check.ran(new ToolrestMill(), "v 5 " + b + " " + c).variable(5), sum);
            }
        }
        check.sentence("'x' makes the variable with the number a the least z, from that of the cutter down, such that the cutter reaches no "
                + "stock at it and at all those above it up to that of the cutter.");
        for (int depth = 0; depth <= 6; depth++) {
            for (int z = depth; z <= 9; z++) {
                ToolrestMill mill = Check.ran(Check.withEnds(), "t 0 0,s 1,g 5 5 9,l 5 5 " + depth + ",g 5 5 " + z + ",x 2");
                check.due("in a hole down to " + depth + " from " + z, mill.variable(2) + " " + Check.place(mill), depth + " 5 5 " + z);
            }
        }
        ToolrestMill cave = new ToolrestMill();
        cave.putCutter(0, 0, 'e', 0, 999);
        cave.putCutter(2, 0, 'v', 1, 999);
        Check.ran(cave, "t 2 0,s 1,g 5 5 9,l 5 5 1,g 5 5 9,g 6 5 9,s 0,t 0 0,x 0,g 5 5 9,x 1");
        check.due("stock stays below the flank", cave.variable(0) + " " + cave.variable(1), "2 1");
    }

    private static void partsAndStops() {
        check.sentence("'r' carries its part out a times, 'i' carries its part out if a is greater than b; otherwise, and when it was carried "
                + "out often enough, the run goes on behind the 'e' of the part.");
        for (int times = 0; times <= 9; times++) {
            ToolrestMill mill = Check.ran(new ToolrestMill(), "r " + times + ",v 0 100 1,v 1 101 2,e,v 2 9 0");
            check.due("r " + times, mill.variable(0) + " " + mill.variable(1) + " " + mill.variable(2) + " " + mill.isOver(),
                    times + " " + 2 * times + " 9 true");
        }
        for (int a = -2; a <= 2; a++) {
            for (int b = -2; b <= 2; b++) {
                ToolrestMill mill = Check.ran(new ToolrestMill(), "v 6 " + b + ",i " + a + " 106,v 0 1 0,e,v 2 9 0");
                check.due("i " + a + " " + b, mill.variable(0) + " " + mill.variable(2) + " " + mill.done(), a > b ? "1 9 5" : "0 9 3");
            }
        }
        check.sentence("'q' is a stop: a call that runs ends behind it.");
        ToolrestMill stops = Check.program("q", "v 0 1 0", "q", "q", "v 0 2 0");
        for (String due : new String[] {"1 1 0", "2 3 1", "1 4 1", "1 5 2", "0 5 2"}) {
            check.due("a call", stops.run(100) + " " + stops.next() + " " + stops.variable(0), due);
        }
    }

    private static void alarm(char want, String blocks) {
        ToolrestMill mill = Check.withEnds();
        mill.putCutter(0, 2, 'e', 2, 1);
        mill.setFixture(9, 9, 5, true);
        Check.ran(mill, blocks);
        check.due(blocks, mill.alarm(), want);
    }

    private static void alarms() {
        check.sentence("Alarms. They are, the first one that applies: 'n', a term is none that is told above, for 't' also if no cutter is "
                + "there; for 'r', a is not 0 to 9; for 'd', a is less than 0 or b less than 1; for 'p', one is less than 0;");
        for (String block : "t 3 0,t -1 0,t 0 4,t 0 -1,t 1 0,s 2,f 0,f -1,m 2,o 4,o -1,v 8,x 8,v -1,x -1".split(",")) {
            alarm('n', block);
            alarm('n', "t 0 0,s 1," + block);
        }
        for (String block : "r -1,r 10".split(",")) {
            alarm('n', block + ",e");
        }
        for (String block : "d -1 1,d 1 0,d 1 -1,p -1 1 1,p 1 -1 1,p 1 1 -1".split(",")) {
            alarm('n', block);
            alarm('n', "t 0 0,s 1," + block);
        }
        check.sentence("'t', 't' while the spindle is on;");
        alarm('t', "s 1,t 0 0");
        alarm('-', "s 0,t 0 0");
        check.sentence("'w', for 't', all such cutters are worn, or for a cut, the cutter is worn at the beginning of the block;");
        alarm('w', "t 0 2,s 1,l 0 0 5,s 0,t 0 2");
        alarm('w', "t 0 2,s 1,l 0 0 5,l 0 0 9");
        alarm('-', "t 0 2,s 1,l 7 7 0");
        check.sentence("'s', a cut, or 'x', without a cutter, or a cut while the spindle is off;");
        for (String block : "l 0 0 9,d 1 1,p 1 1 1".split(",")) {
            alarm('s', block);
            alarm('s', "s 1," + block);
            alarm('s', "t 0 0," + block);
            alarm('-', "t 0 0,s 1," + block);
        }
        alarm('s', "x 0");
        alarm('-', "t 0 0,x 0");
        check.sentence("'l', a place behind a step is not one that there can be;");
        for (String block : "g 16 0 9,l 0 12 9,l 0 0 10,g 0 0 -1,d 10 3,p 16 0 0,p 0 12 0,p 0 0 10".split(",")) {
            alarm('l', "t 0 0,s 1," + block);
        }
        check.sentence("'c', the cutter must not reach a cell that it would reach;");
        for (String block : "g 9 8 5,l 9 9 5,l 9 9 0,l 10 10 4,g 9 9 5".split(",")) {
            alarm('c', "t 0 0,s 1,g 8 8 6," + block);
        }
        for (String block : "g 9 9 6,l 10 10 5,l 10 8 5,l 8 8 0,x 0".split(",")) {
            alarm('-', "t 0 0,s 1,g 8 8 6," + block);
        }
        check.sentence("'x', for 'x', the cutter reaches stock at its place.");
        alarm('x', "g 5 5 5,t 0 0,x 0");
        alarm('x', "g 5 5 0,t 0 1,x 0");
        alarm('-', "g 5 5 6,t 0 0,x 0");
    }

    /** Two neighbours of the alarms' order at a time. */
    private static void severalAlarms() {
        check.sentence("They are, the first one that applies:");
        alarm('n', "s 1,t 0 3");
        alarm('t', "t 0 2,s 1,l 0 0 5,t 0 2");
        alarm('w', "t 0 2,s 1,l 0 0 5,s 0,l 0 0 4");
        alarm('s', "t 0 0,l 0 0 10");
        alarm('l', "t 0 0,s 1,g 9 9 6,l 9 9 -1");
        alarm('n', "x 8");
        alarm('n', "g 5 5 5,t 0 0,x 8");
        alarm('s', "g 5 5 5,x 0");
        alarm('n', "d -1 1");
        alarm('n', "t 0 2,s 1,l 0 0 5,p 0 0 -1");
        alarm('w', "t 0 2,s 1,l 0 0 5,d 10 1");
    }

    private static void times() {
        check.sentence("A step of 'g' takes 1 divided by 100, one of a cut 1 divided by the feed; both are floats.");
        check.due("a step of 'g'", Check.ran(Check.withEnds(), "f 3,g 1 0 9").time(), 1f / 100f);
        check.due("a step of a cut", Check.ran(Check.withEnds(), "t 0 0,s 1,f 3,l 1 0 9").time(), 1f / 3f);
        check.sentence("The time of a move is the number of its steps, converted to float, times that; the times of moves are added up one by "
                + "one, in floats, in their order.");
        for (int feed = 1; feed <= 50; feed++) {
            ToolrestMill mill = Check.withEnds("t 0 0", "s 1", "f " + feed, "l 7 0 9", "g 0 0 9", "d 3 1", "p 5 1 2", "l 0 11 7");
            mill.run(100);
            float step = 1f / (float) feed;
            float time = 7f * step;
            time = time + 7f * (1f / 100f);
            time = time + 1f * step;
            time = time + 2f * step;
            time = time + 3f * step;
            time = time + 2f * step;
            time = time + 5f * step;
            time = time + 1f * step;
            time = time + 5f * step;
            time = time + 10f * step;
            check.due("feed " + feed, mill.timeBits(), Float.floatToIntBits(time));
        }
    }

    private static ToolrestMill midway() {
        return Check.ran(Check.withEnds(), "t 0 1,s 1,v 3 8 0,l 4 4 3,f 0");
    }

    private static void refused(Class<? extends RuntimeException> want, Put call) {
        ToolrestMill mill = midway();
        check.dueThrow("a call", want, () -> call.to(mill));
        check.due("the state behind it", Check.state(mill), Check.state(midway()));
    }

    private static void beginsAnew(String what, Put call) {
        ToolrestMill mill = midway();
        check.due("in the run", mill.stock() < 1152 && mill.used(0, 1) > 0 && mill.alarm() == 'n', true);
        call.to(mill);
        check.due(what, mill.stock() + " " + mill.used(0, 1) + " " + mill.done() + " " + mill.next() + " " + mill.alarm() + " "
                + mill.variable(3) + " " + Check.place(mill) + " " + mill.time() + " " + mill.cutter(), "1152 0 0 0 - 0 0 0 9 0.0 -1");
    }

    private static void exceptions() {
        check.sentence("A method that throws an exception changes nothing.");
        refused(BOUNDS, mill -> mill.putCutter(3, 0, 'e', 1, 1));
        refused(ARGUMENT, mill -> mill.putCutter(0, 1, 'e', 1, 1000));
        refused(UnsupportedOperationException.class, mill -> mill.putCutter(1, 0, 'v', 1, 1));
        refused(BOUNDS, mill -> mill.setFixture(16, 0, 0, true));
        refused(ARGUMENT, mill -> mill.setOffset(0, 1, 1, 16));
        refused(ARGUMENT, mill -> mill.addBlock('c', 0, 0, 0));
        refused(ARGUMENT, mill -> mill.addBlock('v', 0, 0, 51));
        refused(ARGUMENT, mill -> mill.run(0));
        refused(ARGUMENT, mill -> mill.variable(8));
        refused(ARGUMENT, mill -> mill.at(3));
        refused(BOUNDS, mill -> mill.used(0, 4));
        refused(java.util.NoSuchElementException.class, mill -> mill.used(2, 0));
        refused(BOUNDS, mill -> mill.has(0, 0, 6));
        refused(BOUNDS, mill -> mill.hasAnew(0, 12, 0));
        refused(BOUNDS, mill -> mill.height(0, -1));
        check.sentence("If several exceptions apply, the one that is documented first is thrown.");
        refused(BOUNDS, mill -> mill.putCutter(3, 0, 'q', 9, 0));
        refused(ARGUMENT, mill -> mill.putCutter(0, 0, 'b', 4, 1));
        refused(BOUNDS, mill -> mill.used(2, 4));
        ToolrestMill open = Check.program("r 1");
        check.dueThrow("no number of blocks, not closed", ARGUMENT, () -> open.run(101));
        while (open.addBlock('q', 0, 0, 0) < 63) {
            check.due("still open", open.isClosed(), false);
        }
        check.dueThrow("no kind, no room", ARGUMENT, () -> open.addBlock('c', 0, 0, 0));
        check.sentence("When a cutter, a block, an offset or a fixture is told, the run begins anew, with all cells as stock again and cutters without use.");
        beginsAnew("a cutter", mill -> mill.putCutter(2, 0, 'v', 1, 1));
        beginsAnew("a block", mill -> mill.addBlock('q', 0, 0, 0));
        beginsAnew("an offset", mill -> mill.setOffset(3, 1, 1, 1));
        beginsAnew("a fixture", mill -> mill.setFixture(15, 0, 0, true));
    }

    private static void clarifications() {
        check.sentence("What is added to a number behind a step is rounded toward 0.");
        ToolrestMill back = Check.ran(Check.withEnds(), "t 0 0,s 1,g 5 5 6,l 5 5 5,l 2 4 5");
        check.due("by -1 in 3 steps", back.has(4, 5, 5) + " " + back.has(3, 5, 5) + " " + back.has(2, 4, 5) + " " + back.stock(),
                "false false false 1148");
        check.sentence("An opening block is carried out once for its part; an e counts as a block each time it is reached, and the run goes on "
                + "with the first block of the part, as long as the part was not carried out often enough.");
        ToolrestMill parts = Check.program("r 3", "i 1 0", "v 0 100 1", "e", "e", "q");
        for (int next : new int[] {1, 2, 3, 4, 1, 2, 3, 4, 1, 2, 3, 4, 5, 6}) {
            check.due("one block", parts.run(1) + " " + parts.next(), "1 " + next);
        }
        check.due("blocks", parts.done() + " " + parts.variable(0), "14 3");
        check.sentence("When a block is taken away, the run begins anew, too; and also if what is told is as it was.");
        beginsAnew("a block is taken away", mill -> mill.dropBlock());
        beginsAnew("the same cutter", mill -> mill.putCutter(0, 1, 'e', 1, 999));
        beginsAnew("the same offset", mill -> mill.setOffset(0, 0, 0, 0));
        beginsAnew("no fixture, as before", mill -> mill.setFixture(0, 0, 0, false));
    }
}
