/** Runs of calls that come by a fixed count, put to the mill and to the naive one: their answers are the same. */
public final class AgainstNaiveTest {
    private static final int RUNS = 3000;
    /** The document tells what an object answers for 512 calls. */
    private static final int CALLS = 512;
    private static final int CALLS_AT_THE_END = 70;
    private static final String KINDS = "gldptsfmovxrieq";
    private static final String[] SNIPPETS = {
        "s 0,t 0 0,s 1", "s 0,t 1 0,s 1", "s 0,t 2 0,s 1", "s 0,t 2 1,s 1", "r 3,e", "r 2,l 102 101 5,v 2 102 1,e",
        "r 9,v 0 100 1,e", "i 100 3,q,e", "i 3 100,f 7,e", "r 2,r 3,v 3 103 1,e,e", "x 1,v 2 101 -1,l 5 5 102",
        "g 3 3 8,d 5 2", "g 2 2 7,p 4 3 4", "m 1,l 1 1 -1,m 0", "o 1,g 1 1 6,o 0", "m 1,r 4,l 2 1 -1,e,m 0",
        "g 8 6 9,l 8 6 3,g 8 6 9", "f 25,l 12 9 2", "f 3,l 2 8 4", "g 5 5 9,p 3 2 7,x 4", "g 9 4 9,d 9 4,x 5",
        "l 5 5 3,s 0,t 0 1,x 3,s 1,l 6 6 3", "l 4 7 2,s 0,t 1 2,x 3,s 1", "l 7 4 3,s 0,t 2 3,x 3,s 1", "s 1,t 1 1,s 0"
    };

    private final Check check = new Check();
    private final StringBuilder story = new StringBuilder();
    private long seed;
    private long compared;
    private int calls;
    private ToolrestMill mill;
    private NaiveMill naive;
    private final int[] alarms = new int[256];

    public static void main(String[] args) {
        AgainstNaiveTest test = new AgainstNaiveTest();
        for (int run = 0; run < RUNS; run++) {
            test.oneRun(run);
        }
        for (char alarm : "ntwslcx".toCharArray()) {
            System.out.println("alarm " + alarm + ": " + test.alarms[alarm]);
            test.check.due("alarm " + alarm + " came", test.alarms[alarm] > 20, true);
        }
        System.out.println(test.compared + " answers were compared");
        test.check.end();
    }

    private int pick(int bound) {
        seed = seed * 6364136223846793005L + 1442695040888963407L;
        return (int) ((seed >>> 33) % bound);
    }

    private int near(int least, int most) {
        return pick(40) == 0 ? least - 1 : pick(40) == 0 ? most + 1 : least + pick(most - least + 1);
    }

    private void oneRun(int run) {
        seed = run * 7919L + 17;
        mill = new ToolrestMill();
        naive = new NaiveMill();
        calls = 0;
        story.setLength(0);
        story.append("run ").append(run).append(':');
        prepare();
        while (calls < CALLS - CALLS_AT_THE_END) {
            oneCall();
        }
        for (int i = pick(97); i < 1152; i += 97) {
            int x = i % 16;
            int y = i / 16 % 12;
            int z = i / 192;
            both("has", () -> mill.has(x, y, z), () -> naive.has(x, y, z));
            both("hasAnew", () -> mill.hasAnew(x, y, z), () -> naive.has(x, y, z));
        }
        while (calls < CALLS - 1) {
            both("height", () -> mill.height(calls % 16, calls % 12), () -> naive.height(calls % 16, calls % 12));
        }
        both("isSound()", () -> mill.isSound(), () -> true);
    }

    private void prepare() {
        for (int i = 0; i < 12; i++) {
            if (pick(3) > 0) {
                putCutter(i / 4, i % 4, i < 4 ? 'e' : i < 8 ? 'b' : "ebv".charAt(pick(3)), pick(4), 1 + pick(pick(2) == 0 ? 30 : 999));
            }
        }
        for (int i = pick(6) - 3; i > 0; i--) {
            setFixture(pick(16), pick(12), pick(3), true);
        }
        for (int i = pick(3); i > 0; i--) {
            setOffset(pick(4), pick(7) - 3, pick(7) - 3, pick(5) - 2);
        }
        int snippets = 2 + pick(9);
        for (int i = 0; i < snippets; i++) {
            for (String block : SNIPPETS[i == 0 ? pick(5) : pick(SNIPPETS.length)].split(",")) {
                String[] parts = (block + " 0 0 0").split(" ");
                addBlock(parts[0].charAt(0), Integer.parseInt(parts[1]), Integer.parseInt(parts[2]), Integer.parseInt(parts[3]));
            }
            if (pick(2) == 0) {
                addBlock("gldpv".charAt(pick(5)), pick(12), 1 + pick(9), pick(9));
            }
        }
    }

    private int term() {
        switch (pick(4)) {
            case 0:
                return near(100, 107);
            case 1:
                return near(-50, 50);
            default:
                return pick(12);
        }
    }

    private void oneCall() {
        int kind = pick(100);
        if (kind < 25) {
            int blocks = pick(3) == 0 ? near(1, 100) : 1 + pick(5);
            both("run(" + blocks + ")", () -> mill.run(blocks), () -> naive.run(blocks));
            both("alarm()", () -> mill.alarm(), () -> naive.alarm());
            alarms[naive.alarm()]++;
        } else if (kind < 27) {
            both("reset()", () -> mill.reset(), () -> naive.reset());
        } else if (kind < 29) {
            both("dropBlock()", () -> mill.dropBlock(), () -> naive.dropBlock());
        } else if (kind < 31) {
            addBlock(KINDS.charAt(pick(KINDS.length())), term(), term(), term());
        } else if (kind < 32 && pick(3) == 0) {
            tell();
        } else if (kind < 70) {
            askPlaces();
        } else {
            askFigures();
        }
    }

    private void tell() {
        switch (pick(3)) {
            case 0:
                putCutter(near(0, 2), near(0, 3), "ebvq".charAt(pick(4)), near(0, 3), near(1, 999));
                break;
            case 1:
                setFixture(near(0, 15), near(0, 11), near(0, 5), pick(2) == 0);
                break;
            default:
                setOffset(near(0, 3), near(-15, 15), near(-15, 15), near(-15, 15));
                break;
        }
    }

    private void askPlaces() {
        int x = near(0, 15);
        int y = near(0, 11);
        int z = near(0, 5);
        switch (pick(6)) {
            case 0:
                both("has", () -> mill.has(x, y, z), () -> naive.has(x, y, z));
                break;
            case 1:
                both("hasAnew", () -> mill.hasAnew(x, y, z), () -> naive.has(x, y, z));
                break;
            case 2:
                both("height", () -> mill.height(x, y), () -> naive.height(x, y));
                break;
            case 3:
                both("variable", () -> mill.variable(x - 4), () -> naive.variable(x - 4));
                break;
            case 4:
                both("at", () -> mill.at(z - 1), () -> naive.at(z - 1));
                break;
            default:
                both("used", () -> mill.used(x / 4, y / 2 - 1), () -> naive.used(x / 4, y / 2 - 1));
                break;
        }
    }

    private void askFigures() {
        both("isClosed()", () -> mill.isClosed(), () -> naive.isClosed());
        both("isOver()", () -> mill.isOver(), () -> naive.isOver());
        both("next()", () -> mill.next(), () -> naive.next());
        both("done()", () -> mill.done(), () -> naive.done());
        both("cutter()", () -> mill.cutter(), () -> naive.cutter());
        both("stock()", () -> mill.stock(), () -> naive.stock());
        both("checksum()", () -> mill.checksum(), () -> naive.checksum());
        both("time()", () -> mill.time(), () -> naive.time());
        both("timeBits()", () -> mill.timeBits(), () -> naive.timeBits());
        both("meanUse()", () -> mill.meanUse(), () -> naive.meanUse());
        both("taken()", () -> mill.taken(), () -> naive.taken());
    }

    private void putCutter(int rack, int place, char shape, int radius, int life) {
        both("putCutter(" + rack + ", " + place + ", '" + shape + "', " + radius + ", " + life + ")",
                () -> mill.putCutter(rack, place, shape, radius, life), () -> naive.putCutter(rack, place, shape, radius, life));
    }

    private void setFixture(int x, int y, int z, boolean isFixture) {
        both("setFixture(" + x + ", " + y + ", " + z + ", " + isFixture + ")",
                () -> mill.setFixture(x, y, z, isFixture), () -> naive.setFixture(x, y, z, isFixture));
    }

    private void setOffset(int offset, int x, int y, int z) {
        both("setOffset(" + offset + ", " + x + ", " + y + ", " + z + ")",
                () -> mill.setOffset(offset, x, y, z), () -> naive.setOffset(offset, x, y, z));
    }

    private void addBlock(char kind, int a, int b, int c) {
        both("addBlock('" + kind + "', " + a + ", " + b + ", " + c + ")",
                () -> mill.addBlock(kind, a, b, c), () -> naive.addBlock(kind, a, b, c));
    }

    private void both(String call, Check.Call ours, Check.Call theirs) {
        compared++;
        calls++;
        Object got = answerOf(ours);
        Object want = answerOf(theirs);
        if (call.endsWith(")")) {
            story.append(' ').append(call);
        }
        if (got.equals(want)) {
            return;
        }
        check.due(story + " | " + call, got, want);
        check.end();
    }

    private static Object answerOf(Check.Call call) {
        try {
            return call.answer();
        } catch (RuntimeException e) {
            return "throws." + e.getClass().getSimpleName();
        }
    }
}
