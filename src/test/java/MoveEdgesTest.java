/** The terms on the space, cutters, moves, other blocks and times at their edges: a test for each sentence that names one. */
public final class MoveEdgesTest {
    private static final Check check = new Check();

    public static void main(String[] args) {
        placesOfTheCutter();
        noCellBelow();
        ends();
        balls();
        points();
        reachAtTheBorders();
        reachOfRows();
        wear();
        numbersOfSteps();
        roundedTowardZero();
        absolutePlaces();
        stepwisePlaces();
        movesWithoutSteps();
        fastMovesThroughStock();
        fastMovesThroughFixture();
        cutsTakeBehindEachStep();
        cutsReachNoFixture();
        drillLengths();
        drillPlaces();
        pocketPaths();
        pocketNumbers();
        changes();
        changesOfWornCutters();
        spindle();
        feeds();
        placesMode();
        offsets();
        settingsAreKept();
        probes();
        probesBelow();
        timesOfSteps();
        timesOneByOne();
        check.end();
    }

    private static ToolrestMill with(char shape, int radius) {
        ToolrestMill mill = new ToolrestMill();
        mill.putCutter(2, 0, shape, radius, 999);
        return Check.add(mill, "t 2 0", "s 1");
    }

    private static String end(ToolrestMill mill) {
        return Check.place(mill) + " " + mill.alarm();
    }

    private static void placesOfTheCutter() {
        check.sentence("The cutter has a place with an x and a y like these and a z from 0 to 9");
        for (int number = -50; number <= 50; number++) {
            String x = number >= 0 && number <= 15 ? number + " 3 4 -" : "2 3 4 l";
            String y = number >= 0 && number <= 11 ? "2 " + number + " 4 -" : "2 3 4 l";
            String z = number >= 0 && number <= 9 ? "2 3 " + number + " -" : "2 3 4 l";
            check.due("x " + number, end(Check.ran(new ToolrestMill(), "g 2 3 4,g " + number + " 3 4")), x);
            check.due("y " + number, end(Check.ran(new ToolrestMill(), "g 2 3 4,g 2 " + number + " 4")), y);
            check.due("z " + number, end(Check.ran(new ToolrestMill(), "g 2 3 4,g 2 3 " + number)), z);
        }
        ToolrestMill corners = Check.ran(new ToolrestMill(), "g 0 0 0,g 15 11 9,g 0 11 0,g 15 0 9,g 15 0 0,g 0 11 9");
        check.due("from corner to corner", end(corners), "0 11 9 -");
    }

    /** Whether a cutter at 8, 6, 1 took the cell that lies so far from there. */
    private static boolean took(char shape, int radius, int x, int y, int h) {
        ToolrestMill mill = Check.ran(with(shape, radius), "g 8 6 9,l 8 6 1");
        return !mill.has(8 + x, 6 + y, 1 + h);
    }

    private static void reach(char shape, int radius, int h, int[] last, int[] beyond) {
        for (int turn = 0; turn < 8; turn++) {
            int signX = turn % 2 == 0 ? 1 : -1;
            int signY = turn / 2 % 2 == 0 ? 1 : -1;
            int swap = turn / 4;
            String what = shape + " of the radius " + radius + " at the height " + h + ", turn " + turn;
            check.due(what, took(shape, radius, signX * last[swap], signY * last[1 - swap], h), true);
            check.due(what + ", beyond", took(shape, radius, signX * beyond[swap], signY * beyond[1 - swap], h), false);
        }
    }

    private static void noCellBelow() {
        check.sentence("reaches cells i, j, k with k not less than Z");
        for (char shape : "ebv".toCharArray()) {
            for (int radius = 0; radius <= 3; radius++) {
                for (int z = 0; z <= 9; z++) {
                    ToolrestMill mill = Check.ran(with(shape, radius), "g 8 6 9,l 8 6 " + z);
                    check.due(shape + " at " + z, mill.height(8, 6), Math.min(z, 6));
                    for (int k = 0; k < 6; k++) {
                        check.due("cell at " + k, mill.has(8, 6, k), k < z);
                    }
                }
            }
        }
    }

    private static void ends() {
        check.sentence("an end reaches the cell if q is at most r times r");
        for (int h = 0; h <= 4; h++) {
            reach('e', 0, h, new int[] {0, 0}, new int[] {1, 0});
            reach('e', 1, h, new int[] {1, 0}, new int[] {1, 1});
            reach('e', 2, h, new int[] {2, 0}, new int[] {2, 1});
            reach('e', 2, h, new int[] {1, 1}, new int[] {3, 0});
            reach('e', 3, h, new int[] {3, 0}, new int[] {3, 1});
            reach('e', 3, h, new int[] {2, 2}, new int[] {4, 0});
        }
    }

    private static void balls() {
        check.sentence("a ball, if q plus the square of r less h is at most r times r");
        reach('b', 0, 0, new int[] {0, 0}, new int[] {1, 0});
        reach('b', 1, 0, new int[] {0, 0}, new int[] {1, 0});
        reach('b', 1, 1, new int[] {1, 0}, new int[] {1, 1});
        reach('b', 2, 0, new int[] {0, 0}, new int[] {1, 0});
        reach('b', 2, 1, new int[] {1, 1}, new int[] {2, 0});
        reach('b', 2, 2, new int[] {2, 0}, new int[] {2, 1});
        reach('b', 3, 0, new int[] {0, 0}, new int[] {1, 0});
        reach('b', 3, 1, new int[] {2, 1}, new int[] {2, 2});
        reach('b', 3, 2, new int[] {2, 2}, new int[] {3, 0});
        reach('b', 3, 3, new int[] {3, 0}, new int[] {3, 1});
        check.sentence("or plus 0 if h is greater than r");
        reach('b', 0, 1, new int[] {0, 0}, new int[] {1, 0});
        reach('b', 0, 4, new int[] {0, 0}, new int[] {1, 0});
        reach('b', 1, 2, new int[] {1, 0}, new int[] {1, 1});
        reach('b', 1, 4, new int[] {1, 0}, new int[] {1, 1});
        reach('b', 2, 3, new int[] {2, 0}, new int[] {2, 1});
        reach('b', 2, 4, new int[] {2, 0}, new int[] {2, 1});
        reach('b', 3, 4, new int[] {3, 0}, new int[] {3, 1});
    }

    private static void points() {
        check.sentence("a point, if q is at most the square of the lesser one of h and r");
        reach('v', 0, 0, new int[] {0, 0}, new int[] {1, 0});
        reach('v', 0, 4, new int[] {0, 0}, new int[] {1, 0});
        reach('v', 1, 0, new int[] {0, 0}, new int[] {1, 0});
        reach('v', 1, 1, new int[] {1, 0}, new int[] {1, 1});
        reach('v', 1, 4, new int[] {1, 0}, new int[] {1, 1});
        reach('v', 2, 0, new int[] {0, 0}, new int[] {1, 0});
        reach('v', 2, 1, new int[] {1, 0}, new int[] {1, 1});
        reach('v', 2, 2, new int[] {2, 0}, new int[] {2, 1});
        reach('v', 2, 3, new int[] {2, 0}, new int[] {2, 1});
        reach('v', 3, 0, new int[] {0, 0}, new int[] {1, 0});
        reach('v', 3, 1, new int[] {1, 0}, new int[] {1, 1});
        reach('v', 3, 2, new int[] {2, 0}, new int[] {2, 1});
        reach('v', 3, 3, new int[] {3, 0}, new int[] {3, 1});
        reach('v', 3, 4, new int[] {2, 2}, new int[] {3, 1});
    }

    /** An end in every column: only the cells that there are can be taken, none at another border. */
    private static void reachAtTheBorders() {
        check.sentence("The stock lies in cells with an x from 0 to 15, a y from 0 to 11 (reached at the borders)");
        for (int radius = 0; radius <= 3; radius++) {
            for (int column = 0; column < 192; column++) {
                int x = column % 16;
                int y = column / 16;
                ToolrestMill mill = Check.ran(with('e', radius), "g " + x + " " + y + " 9,l " + x + " " + y + " 5");
                int count = 0;
                for (int i = 0; i < 192; i++) {
                    int q = (i % 16 - x) * (i % 16 - x) + (i / 16 - y) * (i / 16 - y);
                    count += q <= radius * radius ? 1 : 0;
                    check.due("cell " + i + " from " + x + " " + y, mill.has(i % 16, i / 16, 5), q > radius * radius);
                }
                check.due("use at " + x + " " + y, mill.used(2, 0) + " " + mill.stock(), count + " " + (1152 - count));
            }
        }
    }

    /** Along a row at one height, so that no higher place has taken what is reached there. */
    private static void reachOfRows() {
        check.sentence("At a place X, Y, Z a cutter with the radius r reaches cells i, j, k (along rows)");
        for (int turn = 0; turn < 12; turn++) {
            char shape = "ebv".charAt(turn % 3);
            int radius = turn / 3;
            for (int z = 0; z < 6; z++) {
                for (int k = 0; k < 6; k++) {
                    ToolrestMill mill = Check.ran(with(shape, radius), "g 0 5 9,l 0 5 " + z + ",l 12 5 " + z);
                    for (int column = 48; column < 160; column++) {
                        int i = column % 16;
                        int j = column / 16;
                        boolean isReached = false;
                        for (int x = 0; x <= 12; x++) {
                            isReached |= isReached(shape, radius, (i - x) * (i - x) + (j - 5) * (j - 5), k - z);
                        }
                        check.due(shape + " " + radius + " along " + z + ", cell " + i + " " + j + " " + k,
                                mill.has(i, j, k), !isReached);
                    }
                }
            }
        }
    }

    /** The document's words, for the square q and the height h. */
    private static boolean isReached(char shape, int r, int q, int h) {
        int lesser = Math.min(h, r);
        int most = shape == 'v' ? lesser * lesser : r * r;
        int plus = shape != 'b' || h > r ? 0 : (r - h) * (r - h);
        return h >= 0 && q + plus <= most;
    }

    private static void wear() {
        check.sentence("it is worn if this is not less than its life");
        for (int life = 1; life <= 7; life++) {
            ToolrestMill mill = new ToolrestMill();
            mill.putCutter(0, 0, 'e', 0, life);
            Check.ran(mill, "t 0 0,s 1,l 0 0 5,l 0 0 4,l 0 0 3,l 0 0 2,l 0 0 1,l 0 0 0,l 0 0 9");
            String want = life > 6 ? "6 9 -" : life + " " + (2 + life) + " w";
            check.due("life " + life, mill.used(0, 0) + " " + mill.next() + " " + mill.alarm(), want);
        }
        for (int life : new int[] {998, 999}) {
            ToolrestMill mill = new ToolrestMill();
            mill.putCutter(0, 0, 'e', 0, life);
            Check.ran(mill, "t 0 0,s 1,p 15 9 9,g 0 10 9,p 5 0 9,g 6 10 9,d 5 5,l 6 11 9");
            check.due("998 cells and a life of " + life, mill.used(0, 0) + " " + mill.alarm(), life == 998 ? "998 w" : "998 -");
            Check.ran(mill, "d 4 4,l 6 11 9");
            check.due("a cell more and a life of " + life, mill.used(0, 0) + " " + mill.alarm(), life == 998 ? "998 w" : "999 w");
        }
        ToolrestMill least = new ToolrestMill();
        least.putCutter(0, 0, 'e', 0, 1);
        Check.ran(least, "t 0 0,s 1,l 1 0 9,l 0 0 6,l 0 0 5,l 0 0 5");
        check.due("a life of 1 is not worn at first", least.next() + " " + least.alarm(), "5 w");
    }

    /** As many steps as the time tells. */
    private static void steps(String from, String to, int steps) {
        ToolrestMill mill = Check.program("g " + from, "g " + to);
        mill.run(1);
        float before = mill.time();
        mill.run(1);
        check.due("from " + from + " to " + to, mill.time(), before + (float) steps * 0.01f);
    }

    private static void numbersOfSteps() {
        check.sentence("in as many steps as the greatest one of the three differences, without sign");
        steps("0 0 0", "15 0 0", 15);
        steps("15 0 0", "0 0 0", 15);
        steps("0 0 0", "0 11 0", 11);
        steps("0 11 0", "0 0 0", 11);
        steps("0 0 0", "0 0 9", 9);
        steps("0 0 9", "0 0 0", 9);
        steps("0 0 0", "15 11 9", 15);
        steps("15 11 9", "0 0 0", 15);
        steps("0 0 0", "3 11 9", 11);
        steps("3 11 9", "0 0 0", 11);
        steps("5 5 0", "3 3 9", 9);
        steps("5 5 9", "3 7 0", 9);
        steps("5 5 5", "6 4 6", 1);
        steps("5 5 5", "5 5 4", 1);
        steps("5 5 5", "5 5 5", 0);
        steps("7 0 0", "0 7 7", 7);
    }

    private static void cutCells(String what, ToolrestMill mill, int[][] cells) {
        int[] heights = new int[192];
        java.util.Arrays.fill(heights, 6);
        for (int[] cell : cells) {
            heights[cell[0] + 16 * cell[1]] = Math.min(heights[cell[0] + 16 * cell[1]], cell[2]);
        }
        for (int i = 0; i < 192; i++) {
            check.due(what + ", column " + i % 16 + " " + i / 16, mill.height(i % 16, i / 16), heights[i]);
        }
    }

    private static void roundedTowardZero() {
        check.sentence("What is added to a number behind a step is rounded toward 0");
        cutCells("y and z by 2 in 5", Check.ran(with('e', 0), "g 3 3 9,l 3 3 4,l 8 5 2"),
                new int[][] {{3, 3, 4}, {4, 3, 4}, {5, 3, 4}, {6, 4, 3}, {7, 4, 3}, {8, 5, 2}});
        cutCells("y by -2, z by 2 in 5", Check.ran(with('e', 0), "g 8 5 9,l 8 5 2,l 3 3 4"),
                new int[][] {{8, 5, 2}, {7, 5, 2}, {6, 5, 2}, {5, 4, 3}, {4, 4, 3}, {3, 3, 4}});
        cutCells("y by 1, z by -1 in 3", Check.ran(with('e', 0), "g 0 0 9,l 0 0 5,l 3 1 4"),
                new int[][] {{0, 0, 5}, {1, 0, 5}, {2, 0, 5}, {3, 1, 4}});
        cutCells("y by -1, z by 1 in -3", Check.ran(with('e', 0), "g 3 1 9,l 3 1 4,l 0 0 5"),
                new int[][] {{3, 1, 4}, {2, 1, 4}, {1, 1, 4}, {0, 0, 5}});
        cutCells("x by -3 in 4 along y", Check.ran(with('e', 0), "g 9 1 9,l 9 1 5,l 6 5 5"),
                new int[][] {{9, 1, 5}, {9, 2, 5}, {8, 3, 5}, {7, 4, 5}, {6, 5, 5}});
        cutCells("x by 3 in -4 along y", Check.ran(with('e', 0), "g 6 5 9,l 6 5 5,l 9 1 5"),
                new int[][] {{6, 5, 5}, {6, 4, 5}, {7, 3, 5}, {8, 2, 5}, {9, 1, 5}});
        cutCells("x by 2, y by -1 in -5 along z", Check.ran(with('e', 0), "g 6 6 5,l 8 5 0"),
                new int[][] {{6, 6, 6}});
        cutCells("x by 2, y by -1 in -5 along z", Check.ran(with('e', 0), "g 6 6 6,l 8 5 1"),
                new int[][] {{6, 6, 4}, {7, 6, 2}, {8, 5, 1}});
    }

    private static void absolutePlaces() {
        check.sentence("to the place a, b, c, plus the offset if places are absolute");
        ToolrestMill mill = new ToolrestMill();
        mill.setOffset(0, -15, 11, 9);
        Check.ran(mill, "g 15 -11 -9,g 30 0 0,g 15 0 -1");
        check.due("at the least and the greatest", end(mill), "0 11 8 -");
        Check.ran(mill, "g 14 0 0");
        check.due("x one less", end(mill), "0 11 8 l");
        mill.dropBlock();
        Check.ran(mill, "g 15 1 0");
        check.due("y one more", end(mill), "0 11 8 l");
        mill.dropBlock();
        Check.ran(mill, "g 15 0 1");
        check.due("z one more", end(mill), "0 11 8 l");
        mill.dropBlock();
        Check.ran(mill, "g 30 -11 -9");
        check.due("all at the other ends", end(mill), "15 0 0 -");
    }

    private static void stepwisePlaces() {
        check.sentence("or plus the place itself otherwise");
        ToolrestMill mill = new ToolrestMill();
        mill.setOffset(0, 1, 1, 1);
        Check.add(mill, "m 1", "g 15 11 -9", "g -15 -11 9", "g 0 0 0", "g 1 0 0", "g -1 0 0", "g 0 0 1");
        String[] places = {"0 0 9", "15 11 0", "0 0 9", "0 0 9", "1 0 9", "0 0 9", "0 0 9"};
        for (int block = 0; block < places.length; block++) {
            mill.run(1);
            check.due("behind block " + block, end(mill), places[block] + (block == 6 ? " l" : " -"));
        }
        for (String beyond : new String[] {"16 0 0", "-1 0 0", "0 12 0", "0 -1 0", "0 0 1", "0 0 -10", "50 50 50", "-50 -50 -50"}) {
            check.due("by " + beyond, end(Check.ran(new ToolrestMill(), "m 1,g " + beyond)), "0 0 9 l");
        }
        ToolrestMill cuts = Check.ran(with('e', 0), "m 1,l 3 3 -4,l 0 0 -1,l -1 0 0");
        check.due("cuts", end(cuts) + " " + cuts.stock(), "2 3 4 - 1148");
    }

    private static void movesWithoutSteps() {
        check.sentence("in as many steps as the greatest one (no step)");
        ToolrestMill mill = Check.ran(Check.withEnds(), "t 0 0,s 1,l 5 5 5,s 0,t 0 1,g 5 5 5,s 1,l 5 5 5,m 1,l 0 0 0,g 0 0 0");
        check.due("no step reaches nothing", end(mill) + " " + mill.stock() + " " + mill.used(0, 1), "5 5 5 - 1151 0");
        ToolrestMill fixture = Check.withEnds();
        fixture.setFixture(6, 5, 5, true);
        Check.ran(fixture, "t 0 0,s 1,l 5 5 5,s 0,t 0 1,s 1,l 5 5 5,d 0 1,p 0 0 0,g 5 5 5");
        check.due("nor a fixture", end(fixture) + " " + fixture.isOver(), "5 5 5 - true");
        check.due("no step takes no time", Check.ran(with('e', 0), "l 0 0 9,g 0 0 9,d 0 1,p 0 0 0").timeBits(), 0);
    }

    private static void fastMovesThroughStock() {
        check.sentence("'g' must reach neither stock nor fixture behind any step");
        check.due("at the last step", end(Check.ran(with('e', 0), "g 4 4 6,g 4 4 5")), "4 4 6 c");
        check.due("above", end(Check.ran(with('e', 3), "g 4 4 6,g 15 11 6")), "15 11 6 -");
        String pits = "g 2 4 6,l 2 4 5,g 2 4 6,g 4 4 6,l 4 4 5";
        check.due("between", end(Check.ran(with('e', 0), pits + ",g 2 4 5")), "4 4 5 c");
        check.due("over it", end(Check.ran(with('e', 0), pits + ",g 4 4 6,g 2 4 6,g 2 4 5")), "2 4 5 -");
        check.due("through a groove", end(Check.ran(with('e', 0), pits + ",l 2 4 5,g 4 4 5")), "4 4 5 -");
        check.due("at the first step", end(Check.ran(with('e', 0), "g 4 4 6,l 4 4 5,g 5 4 5")), "4 4 5 c");
        ToolrestMill wider = Check.ran(Check.withEnds(), "t 0 0,s 1,l 4 4 5,s 0,t 0 1,g 4 4 6");
        check.due("the beginning is behind no step", end(wider), "4 4 6 -");
        ToolrestMill deeper = Check.ran(Check.withEnds(), "t 0 0,s 1,g 4 4 9,l 4 4 4,s 0,t 0 1,g 4 4 6");
        check.due("but the next place is", end(deeper), "4 4 4 c");
        check.due("without a cutter nothing is reached", end(Check.ran(new ToolrestMill(), "g 8 8 0,g 0 0 0")), "0 0 0 -");
        ToolrestMill off = Check.ran(with('e', 1), "g 8 8 9,l 8 8 5,s 0,g 8 8 6,g 8 8 5,g 9 8 5");
        check.due("with the spindle off, too", end(off), "8 8 5 c");
    }

    private static void fastMovesThroughFixture() {
        check.sentence("'g' must reach neither stock nor fixture behind any step (fixture)");
        ToolrestMill mill = with('e', 0);
        mill.setFixture(3, 4, 2, true);
        Check.ran(mill, "g 2 4 6,l 2 4 3,l 4 4 3,g 2 4 3");
        check.due("above the fixture", end(mill), "2 4 3 -");
        Check.ran(mill, "g 3 4 3,g 3 4 2");
        check.due("down to the fixture", end(mill), "3 4 3 c");
        ToolrestMill wide = with('e', 1);
        wide.setFixture(3, 4, 5, true);
        Check.ran(wide, "g 5 4 6,l 5 4 5");
        check.due("beside it", end(wide), "5 4 5 -");
        Check.ran(wide, "g 4 4 5");
        check.due("at it", end(wide), "5 4 5 c");
    }

    private static void cutsTakeBehindEachStep() {
        check.sentence("takes all stock cells that the cutter reaches behind each step");
        ToolrestMill mill = Check.ran(Check.withEnds(), "t 0 0,s 1,g 4 4 6,l 4 4 5,s 0,t 0 1,s 1,l 5 4 6");
        check.due("not at the beginning", mill.stock() + " " + mill.used(0, 1), "1151 0");
        cutCells("each step of a row", Check.ran(with('e', 0), "g 4 4 6,l 4 4 5,l 7 4 5"),
                new int[][] {{4, 4, 5}, {5, 4, 5}, {6, 4, 5}, {7, 4, 5}});
        ToolrestMill whole = Check.ran(with('e', 3), "p 15 11 9");
        check.due("all cells", whole.stock() + " " + whole.used(2, 0) + " " + whole.checksum(), "0 1152 0");
        ToolrestMill twice = Check.ran(with('e', 3), "p 15 11 9,g 0 0 9,p 15 11 9");
        check.due("none is taken twice", twice.used(2, 0) + " " + twice.alarm(), "1152 w");
    }

    /** One fixture at a time, and whether a cut along x with the radius 1 is refused. */
    private static void cutsReachNoFixture() {
        check.sentence("and must reach no fixture");
        for (int x = 0; x < 16; x++) {
            for (int y = 2; y < 7; y++) {
                ToolrestMill mill = with('e', 1);
                mill.setFixture(x, y, 5, true);
                Check.ran(mill, "g 3 4 6,m 1,l 3 0 -1");
                boolean isReached = Math.abs(x - 6) + Math.abs(y - 4) <= 1;
                check.due("down at the last step, fixture " + x + " " + y, mill.alarm(), isReached ? 'c' : '-');
                ToolrestMill row = with('e', 1);
                row.setFixture(x, y, 5, true);
                Check.ran(row, "g 3 4 6,l 3 4 5,l 6 4 5");
                boolean isFirst = Math.abs(x - 3) + Math.abs(y - 4) <= 1;
                boolean isRow = y == 4 && x >= 3 && x <= 7 || Math.abs(y - 4) == 1 && x >= 4 && x <= 6;
                String want = isFirst ? "3 c" : isRow ? "4 c" : "5 -";
                check.due("a row, fixture " + x + " " + y, row.next() + " " + row.alarm(), want);
            }
        }
        for (int z = 0; z < 6; z++) {
            ToolrestMill mill = with('e', 0);
            mill.setFixture(7, 7, z, true);
            Check.ran(mill, "g 7 7 9,l 7 7 " + (z + 1));
            check.due("just above " + z, end(mill), "7 7 " + (z + 1) + " -");
            Check.ran(mill, "l 7 7 " + z);
            check.due("at " + z, end(mill) + " " + mill.has(7, 7, z), "7 7 " + (z + 1) + " c true");
        }
        ToolrestMill begin = Check.withEnds();
        begin.setFixture(6, 5, 5, true);
        Check.ran(begin, "t 0 0,s 1,g 5 5 6,l 5 5 5,s 0,t 0 1,s 1,l 5 5 6");
        check.due("the beginning is behind no step", end(begin), "5 5 6 -");
    }

    private static float sum(float begin, float step, int... steps) {
        float sum = begin;
        for (int count : steps) {
            sum += (float) count * step;
        }
        return sum;
    }

    private static void drill(String block, int height, int... cuts) {
        ToolrestMill mill = Check.ran(with('e', 0), "g 4 4 9," + block);
        check.due(block, end(mill), "4 4 9 -");
        check.due(block + ", time", mill.timeBits(), Float.floatToIntBits(sum(sum(0f, 0.01f, 4), 0.1f, cuts)));
        check.due(block + ", height and stock", mill.height(4, 4) + " " + mill.stock(), height + " " + (1146 + height));
    }

    private static void drillLengths() {
        check.sentence("the first one by b, the second one by twice b, and so on, and the last one by a");
        drill("d 9 1", 0, 1, 2, 3, 4, 5, 6, 7, 8, 9);
        drill("d 9 2", 0, 2, 4, 6, 8, 9);
        drill("d 9 4", 0, 4, 8, 9);
        drill("d 8 3", 1, 3, 6, 8);
        drill("d 7 3", 2, 3, 6, 7);
        drill("d 5 3", 4, 3, 5);
        drill("d 2 1", 6, 1, 2);
        check.sentence("where no other one is as long or longer");
        drill("d 9 3", 0, 3, 6, 9);
        drill("d 8 4", 1, 4, 8);
        drill("d 8 2", 1, 2, 4, 6, 8);
        drill("d 9 8", 0, 8, 9);
        drill("d 9 9", 0, 9);
        drill("d 9 10", 0, 9);
        drill("d 9 50", 0, 9);
        drill("d 1 1", 6, 1);
        drill("d 1 2", 6, 1);
        drill("d 4 5", 5, 4);
        drill("d 0 1", 6, 0);
        drill("d 0 50", 6, 0);
        check.sentence("terms that have no meaning are told, too ('d')");
        drill("d 9 3 -50", 0, 3, 6, 9);
        drill("d 9 3 50", 0, 3, 6, 9);
    }

    private static void drillPlaces() {
        check.sentence("'d' makes cuts from the place straight down");
        for (int z = 0; z <= 9; z++) {
            String to = "l 3 7 " + z + ",";
            check.due("to the ground from " + z, end(Check.ran(with('e', 0), to + "d " + z + " 1")), "3 7 " + z + " -");
            check.due("below it from " + z, end(Check.ran(with('e', 0), to + "d " + (z + 1) + " 1")), "3 7 " + z + " l");
            check.due("below it at once from " + z, end(Check.ran(with('e', 0), to + "d " + (z + 1) + " 50")), "3 7 " + z + " l");
            ToolrestMill ground = Check.ran(with('e', 0), to + "d " + z + " 2");
            check.due("height", ground.height(3, 7), 0);
        }
        check.sentence("behind each of them, the cutter is at the place again, without a move");
        ToolrestMill mill = Check.ran(with('e', 0), "g 3 7 6,m 1,o 1,d 3 1,l 0 0 -1");
        check.due("place", end(mill), "3 7 5 -");
        check.due("time", mill.timeBits(), Float.floatToIntBits(sum(sum(0f, 0.01f, 7), 0.1f, 1, 2, 3, 1)));
    }

    private static void pocketPaths() {
        check.sentence("a cut down by c, then one by a to greater x, and then, b times, one by 1 to greater y and one by a along x");
        cutCells("two rows", Check.ran(with('e', 0), "g 4 4 6,p 2 1 1"),
                new int[][] {{4, 4, 5}, {5, 4, 5}, {6, 4, 5}, {6, 5, 5}, {5, 5, 5}, {4, 5, 5}});
        cutCells("three rows", Check.ran(with('e', 0), "g 4 4 6,p 1 2 3"),
                new int[][] {{4, 4, 3}, {5, 4, 3}, {5, 5, 3}, {4, 5, 3}, {4, 6, 3}, {5, 6, 3}});
        check.sentence("to lesser x and to greater x in turns");
        for (int b = 0; b <= 11; b++) {
            ToolrestMill mill = Check.ran(with('e', 0), "g 2 0 9,p 5 " + b + " 4");
            check.due(b + " times", end(mill), (b % 2 == 0 ? 7 : 2) + " " + b + " 9 -");
            check.due("cells", mill.stock(), 1152 - 6 * (b + 1));
        }
        check.sentence("then the cutter is up by c again, without a move");
        ToolrestMill mill = Check.ran(with('e', 0), "g 4 4 7,f 7,p 3 2 6,p 0 0 7");
        check.due("place", end(mill), "7 6 7 -");
        check.due("time", mill.timeBits(), Float.floatToIntBits(sum(sum(0f, 0.01f, 4), 1f / 7f, 6, 3, 1, 3, 1, 3, 7, 0)));
    }

    private static void pocketNumbers() {
        check.sentence("'p' at the least and the greatest a, b and c");
        check.due("all 0", end(Check.ran(with('e', 0), "g 4 4 6,p 0 0 0")), "4 4 6 -");
        check.due("a 0", end(Check.ran(with('e', 0), "g 4 4 6,p 0 3 1")), "4 7 6 -");
        check.due("b 0", end(Check.ran(with('e', 0), "g 4 4 6,p 3 0 1")), "7 4 6 -");
        check.due("c 0", end(Check.ran(with('e', 0), "g 4 4 6,l 4 4 5,p 3 2 0")), "7 6 5 -");
        check.due("a to the border", end(Check.ran(with('e', 0), "g 4 4 6,p 11 0 1")), "15 4 6 -");
        check.due("a beyond", end(Check.ran(with('e', 0), "g 4 4 6,p 12 0 1")), "4 4 6 l");
        check.due("b to the border", end(Check.ran(with('e', 0), "g 4 4 6,p 1 7 1")), "4 11 6 -");
        check.due("b beyond", end(Check.ran(with('e', 0), "g 4 4 6,p 1 8 1")), "4 4 6 l");
        check.due("c to the ground", end(Check.ran(with('e', 0), "g 4 4 6,p 1 1 6")), "4 5 6 -");
        check.due("c beyond", end(Check.ran(with('e', 0), "g 4 4 6,p 1 1 7")), "4 4 6 l");
        check.due("all 50", end(Check.ran(with('e', 0), "g 4 4 6,p 50 50 50")), "4 4 6 l");
        check.due("b 50, a 0", end(Check.ran(with('e', 0), "p 0 50 0")), "0 0 9 l");
        check.due("from corner to corner", end(Check.ran(with('e', 3), "p 15 11 9")), "0 11 9 -");
        check.due("at the far corner", end(Check.ran(with('e', 3), "g 15 11 9,p 0 0 9")), "15 11 9 -");
        check.due("x beyond it", end(Check.ran(with('e', 3), "g 15 11 9,p 1 0 9")), "15 11 9 l");
        check.due("y beyond it", end(Check.ran(with('e', 3), "g 15 11 9,p 0 1 9")), "15 11 9 l");
    }

    private static void changes() {
        check.sentence("'t' takes the cutter of the rack a and the place b");
        for (int slot = 0; slot < 12; slot++) {
            ToolrestMill mill = new ToolrestMill();
            for (int other = 0; other < 12; other++) {
                mill.putCutter(other / 4, other % 4, "ebe".charAt(other / 4), 1, 1);
            }
            Check.ran(mill, "t " + slot / 4 + " " + slot % 4);
            check.due("slot", mill.cutter() + " " + mill.alarm(), slot + " -");
            Check.ran(mill, "t " + slot / 4 + " " + slot % 4);
            check.due("the same again", mill.cutter() + " " + mill.done(), slot + " 2");
        }
    }

    /** The cutters of rack 2; the one at the place 0 is worn by one cell. */
    private static int changed(String shapes, String radii, String lives) {
        ToolrestMill mill = new ToolrestMill();
        for (int place = 0; place < shapes.length(); place++) {
            if (shapes.charAt(place) != '-') {
                mill.putCutter(2, place, shapes.charAt(place), radii.charAt(place) - '0', lives.charAt(place) - '0');
            }
        }
        Check.ran(mill, "t 2 0,s 1,g 8 6 6,l 8 6 5,s 0,t 2 0");
        return mill.alarm() == 'w' ? -1 : mill.cutter() % 4;
    }

    private static void changesOfWornCutters() {
        check.sentence("the one with the lowest place behind it in this rack that has the same shape and radius and is not worn");
        check.due("not worn itself", changed("eeee", "0000", "2999"), 0);
        check.due("the next one", changed("eeee", "0000", "1999"), 1);
        check.due("over an empty place", changed("e-ee", "0000", "1999"), 2);
        check.due("the last one", changed("e--e", "0000", "1999"), 3);
        check.due("none", changed("e---", "0000", "1999"), -1);
        check.due("over another shape", changed("ebve", "0000", "1999"), 3);
        check.due("no same shape", changed("ebvb", "0000", "1999"), -1);
        check.due("over another radius", changed("eeee", "0120", "1999"), 3);
        check.due("no same radius", changed("eeee", "0123", "1999"), -1);
        ToolrestMill worn = new ToolrestMill();
        for (int place = 0; place < 4; place++) {
            worn.putCutter(0, place, 'e', 0, 1);
        }
        for (int place = 0; place < 4; place++) {
            Check.ran(worn, "s 0,t 0 0");
            check.due("worn ones are passed", worn.cutter() + " " + worn.alarm(), place + " -");
            Check.ran(worn, "s 1,l " + (place + 1) + " 0 5");
        }
        Check.ran(worn, "s 0,t 0 0");
        check.due("all are worn", worn.cutter() + " " + worn.alarm(), "3 w");
        check.sentence("behind it in this rack");
        ToolrestMill ahead = new ToolrestMill();
        ahead.putCutter(0, 2, 'e', 0, 999);
        ahead.putCutter(0, 3, 'e', 0, 1);
        ahead.putCutter(2, 0, 'e', 0, 999);
        Check.ran(ahead, "t 0 3,s 1,l 0 0 5,s 0,t 0 3");
        check.due("neither one ahead nor one of another rack", ahead.cutter() + " " + ahead.alarm(), "3 w");
        ToolrestMill nextRack = new ToolrestMill();
        nextRack.putCutter(1, 3, 'b', 0, 1);
        nextRack.putCutter(2, 0, 'b', 0, 999);
        Check.ran(nextRack, "t 1 3,s 1,l 0 0 5,s 0,t 1 3");
        check.due("not the first one of the next rack", nextRack.cutter() + " " + nextRack.alarm(), "7 w");
        ToolrestMill middle = new ToolrestMill();
        middle.putCutter(2, 0, 'v', 0, 999);
        middle.putCutter(2, 1, 'v', 0, 1);
        middle.putCutter(2, 2, 'v', 0, 999);
        Check.ran(middle, "t 2 1,s 1,l 0 0 5,s 0,t 2 1");
        check.due("behind the second one", middle.cutter(), 10);
    }

    private static void spindle() {
        check.sentence("'s' sets the spindle, 0 off or 1 on");
        check.due("on", Check.ran(Check.withEnds(), "t 0 0,s 1,l 0 0 8").alarm(), '-');
        check.due("off", Check.ran(Check.withEnds(), "t 0 0,s 0,l 0 0 8").alarm(), 's');
        check.due("on twice", Check.ran(Check.withEnds(), "t 0 0,s 1,s 1,l 0 0 8").alarm(), '-');
        check.due("on twice, off once", Check.ran(Check.withEnds(), "t 0 0,s 1,s 1,s 0,l 0 0 8").alarm(), 's');
        check.due("off and on", Check.ran(Check.withEnds(), "t 0 0,s 0,s 1,l 0 0 8").alarm(), '-');
        check.due("off for a change", Check.ran(Check.withEnds(), "t 0 0,s 1,s 0,t 0 1").alarm(), '-');
        for (int number = -50; number <= 50; number++) {
            char want = number == 0 || number == 1 ? '-' : 'n';
            check.due("s " + number, Check.ran(new ToolrestMill(), "s " + number).alarm(), want);
            check.due("s by " + number, Check.ran(new ToolrestMill(), "v 6 " + number + ",s 106").alarm(), want);
        }
    }

    private static void feeds() {
        check.sentence("'f' the feed, 1 to 50");
        for (int number = -50; number <= 50; number++) {
            ToolrestMill mill = Check.ran(with('e', 0), "f " + number + ",l 7 0 9");
            boolean isFeed = number >= 1;
            check.due("f " + number, mill.alarm(), isFeed ? '-' : 'n');
            check.due("time", mill.time(), isFeed ? 7f * (1f / (float) number) : 0f);
        }
        ToolrestMill kept = Check.ran(with('e', 0), "f 50,l 1 0 9,s 0,t 2 0,s 1,m 1,o 3,q,v 0 1 0");
        kept.run(100);
        Check.ran(kept, "l 1 0 0");
        kept.run(100);
        check.due("kept until the next one", kept.time(), 1f / 50f + 1f / 50f);
    }

    private static void placesMode() {
        check.sentence("'m' the places, 0 absolute or 1 stepwise");
        for (int number = -50; number <= 50; number++) {
            ToolrestMill mill = Check.ran(new ToolrestMill(), "g 1 1 8,m " + number + ",g 1 1 1");
            check.due("m " + number, end(mill), number == 0 ? "1 1 1 -" : number == 1 ? "2 2 9 -" : "1 1 8 n");
        }
        check.due("back", end(Check.ran(new ToolrestMill(), "m 1,m 0,g 1 1 8,g 1 1 8")), "1 1 8 -");
        check.due("twice", end(Check.ran(new ToolrestMill(), "m 1,m 1,g 1 1 -1,g 1 1 -1")), "2 2 7 -");
    }

    private static void offsets() {
        check.sentence("'o' the offset, 0 to 3");
        for (int number = -50; number <= 50; number++) {
            ToolrestMill mill = new ToolrestMill();
            for (int offset = 0; offset < 4; offset++) {
                mill.setOffset(offset, offset + 1, 2 * offset, -offset);
            }
            Check.ran(mill, "o " + number + ",g 5 5 5");
            boolean isOffset = number >= 0 && number <= 3;
            String place = 5 + number + 1 + " " + (5 + 2 * number) + " " + (5 - number) + " -";
            check.due("o " + number, end(mill), isOffset ? place : "0 0 9 n");
        }
    }

    /** Behind a block, with the offset 1 and the feed 20, a cut goes to the x that is due, in the time that is due. */
    private static void kept(String block, int x, int feed) {
        ToolrestMill mill = Check.withEnds("v 0 41 0", "v 1 42 0", "v 2 43 0", "v 3 44 0", "t 0 1", "s 1", "f 20", "o 1");
        mill.setOffset(0, 9, 0, 0);
        mill.setOffset(1, 1, 0, 0);
        mill.setOffset(2, 2, 0, 0);
        Check.ran(mill, block);
        mill.run(100);
        check.due(block, end(mill), "0 0 9 -");
        check.due(block + ", time", mill.timeBits(), 0);
        check.due(block + ", variables", mill.variable(0) + " " + mill.variable(1) + " " + mill.variable(2) + " "
                + mill.variable(3) + " " + mill.variable(4), "41 42 43 44 0");
        Check.ran(mill, "l 3 0 9");
        mill.run(100);
        check.due(block + ", a cut behind it", end(mill) + " " + mill.cutter(), x + " 0 9 - 1");
        check.due(block + ", the feed of it", mill.time(), (float) x * (1f / (float) feed));
    }

    private static void settingsAreKept() {
        check.sentence("'s' sets the spindle, 'f' the feed, 'm' the places, 'o' the offset (and nothing else)");
        kept("s 1 5 6", 4, 20);
        kept("s 0 5 6,s 1", 4, 20);
        kept("f 9 5 6", 4, 9);
        kept("f 1 5 6", 4, 1);
        kept("m 0 5 6", 4, 20);
        kept("m 1,m 0", 4, 20);
        kept("o 2 5 6", 5, 20);
        kept("o 1 5 6", 4, 20);
        kept("o 0 5 6,o 3", 3, 20);
        kept("m 1,o 2,m 0", 5, 20);
        check.sentence("other blocks set none of these");
        kept("v 7 5 6", 4, 20);
        kept("x 7 5 6", 4, 20);
        kept("r 1 5 6,e 5 5 5", 4, 20);
        kept("r 0 5 6,e", 4, 20);
        kept("i 3 2 1,e 2 2 2", 4, 20);
        kept("q 3 3 3", 4, 20);
        kept("g -1 0 9", 4, 20);
        kept("l -1 0 9", 4, 20);
        kept("d 0 1 9", 4, 20);
        kept("p 0 0 0", 4, 20);
        kept("s 0,t 0 1 9,s 1", 4, 20);
    }

    private static void probe(String what, String blocks, int want) {
        ToolrestMill mill = Check.ran(Check.withShapes(), blocks);
        String before = Check.place(mill) + " " + mill.stock() + " " + mill.timeBits() + " " + mill.cutter();
        Check.ran(mill, "x 7");
        check.due(what, mill.variable(7) + " " + mill.alarm(), want + " -");
        String behind = Check.place(mill) + " " + mill.stock() + " " + mill.timeBits() + " " + mill.cutter();
        check.due(what + ", the rest", behind, before);
    }

    private static void probes() {
        check.sentence("the least z, from that of the cutter down, such that the cutter reaches no stock at it");
        for (int z = 6; z <= 9; z++) {
            for (int rack = 0; rack < 3; rack++) {
                probe("from " + z + " on all the stock", "t " + rack + " 0,g 8 6 " + z, 6);
            }
        }
        for (int z = 0; z <= 6; z++) {
            probe("an end in its hole down to " + z, "t 0 0,s 1,g 8 6 9,l 8 6 " + z + ",g 8 6 9", z);
            probe("a ball in its hole down to " + z, "t 1 0,s 1,g 8 6 9,l 8 6 " + z + ",g 8 6 9", z);
            probe("a point in its hole down to " + z, "t 2 0,s 1,g 8 6 9,l 8 6 " + z + ",g 8 6 9", z);
            probe("at the ground of the hole " + z, "t 0 0,s 1,g 8 6 9,l 8 6 " + z, z);
            probe("a ball in an end's hole down to " + z, "t 0 0,s 1,g 8 6 9,l 8 6 " + z + ",g 8 6 9,s 0,t 1 0", z);
        }
        probe("an end in a ball's hole", "t 1 0,s 1,g 8 6 9,l 8 6 2,g 8 6 9,s 0,t 0 0", 4);
        probe("an end in a point's hole", "t 2 0,s 1,g 8 6 9,l 8 6 2,g 8 6 9,s 0,t 0 0", 4);
        probe("a ball in a point's hole", "t 2 0,s 1,g 8 6 9,l 8 6 2,g 8 6 9,s 0,t 1 0", 3);
        probe("beside the hole", "t 0 0,s 1,g 8 6 9,l 8 6 2,g 8 6 9,g 9 6 9", 6);
        check.sentence("'x', for 'x', the cutter reaches stock at its place");
        check.due("in the stock", Check.ran(Check.withEnds(), "t 0 0,s 1,l 4 4 5,s 0,t 0 1,x 0").alarm(), 'x');
        check.due("in its own hole", Check.ran(Check.withEnds(), "t 0 1,s 1,l 4 4 5,s 0,x 0").alarm(), '-');
        check.due("above the stock", Check.ran(Check.withEnds(), "t 0 1,g 4 4 6,x 0").alarm(), '-');
    }

    private static void probesBelow() {
        check.sentence("a z from 0 to 9 (for 'x')");
        ToolrestMill mill = Check.ran(with('e', 0), "d 9 9,x 0,x 1,l 0 0 0,x 2,v 3 5 0,x 3");
        check.due("0 is the least", mill.variable(0) + " " + mill.variable(2) + " " + mill.variable(3) + " " + mill.alarm(), "0 0 0 -");
        ToolrestMill on = Check.ran(with('e', 0), "x 0,g 0 0 6,x 1");
        check.due("6 on all the stock", on.variable(0) + " " + on.variable(1), "6 6");
        ToolrestMill fixture = with('e', 0);
        fixture.setFixture(0, 0, 2, true);
        Check.ran(fixture, "d 6 6,x 0");
        check.due("a fixture is stock", fixture.variable(0) + " " + fixture.alarm(), "3 -");
    }

    private static void timesOfSteps() {
        check.sentence("A step of 'g' takes 1 divided by 100, one of a cut 1 divided by the feed; both are floats");
        for (int steps = 0; steps <= 15; steps++) {
            ToolrestMill fast = Check.ran(new ToolrestMill(), "f 1,g " + steps + " 0 9");
            check.due(steps + " steps of 'g'", fast.timeBits(), Float.floatToIntBits((float) steps * (1f / 100f)));
            for (int feed = 1; feed <= 50; feed++) {
                ToolrestMill cut = Check.ran(with('e', 0), "f " + feed + ",l " + steps + " 0 9");
                check.due(steps + " steps at " + feed, cut.timeBits(), Float.floatToIntBits((float) steps * (1f / (float) feed)));
            }
        }
    }

    private static void timesOneByOne() {
        check.sentence("the times of moves are added up one by one, in floats, in their order");
        for (int feed = 1; feed <= 50; feed++) {
            ToolrestMill mill = with('e', 0);
            Check.add(mill, "f " + feed, "r 9", "l 15 3 9", "g 2 3 9", "p 7 2 2", "d 4 3", "g 0 0 9", "e");
            float time = 0f;
            float step = 1f / (float) feed;
            mill.run(4);
            for (int round = 0; round < 9; round++) {
                time = sum(time, step, 15);
                mill.run(1);
                check.due("behind 'l'", mill.timeBits(), Float.floatToIntBits(time));
                time = sum(time, 0.01f, 13);
                mill.run(1);
                check.due("behind 'g'", mill.timeBits(), Float.floatToIntBits(time));
                time = sum(time, step, 2, 7, 1, 7, 1, 7);
                mill.run(1);
                check.due("behind 'p'", mill.timeBits(), Float.floatToIntBits(time));
                time = sum(time, step, 3, 4);
                mill.run(1);
                check.due("behind 'd'", mill.timeBits(), Float.floatToIntBits(time));
                time = sum(time, 0.01f, 9);
                mill.run(1);
                check.due("behind the last 'g'", mill.timeBits(), Float.floatToIntBits(time));
                mill.run(1);
                check.due("behind 'e'", mill.time(), time);
            }
        }
    }
}
