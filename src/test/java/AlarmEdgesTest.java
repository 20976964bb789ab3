/** The alarms at their edges, each alone and where several apply: a test for each part of the document's sentence. */
public final class AlarmEdgesTest {
    private static final Check check = new Check();

    private static final String READY = "t 0 0,s 1,g 4 4 9,";
    private static final String IN_HOLE = "t 0 2,s 1,l 4 4 5";
    private static final String WORN = IN_HOLE + ",g 4 4 9";

    public static void main(String[] args) {
        changesThatAreNone();
        otherTermsThatAreNone();
        repeatsThatAreNone();
        drillsThatAreNone();
        pocketsThatAreNone();
        termsWithoutMeaning();
        spindleOnAtChange();
        wornCutters();
        noCutter();
        spindleOffAtCut();
        placesThatThereAreNot();
        cornersOfPockets();
        cellsNotToReach();
        stockAtTheProbe();
        severalForChange();
        severalForSingleCut();
        severalForDrill();
        severalForPocket();
        severalForFastMove();
        severalForProbe();
        drillDoesNothing();
        pocketDoesNothing();
        movesDoNothing();
        otherBlocksDoNothing();
        check.end();
    }

    /** The last block, before the 'e's, gives the alarm, and all the others none. */
    private static void gives(char want, ToolrestMill mill, String blocks) {
        String[] parts = blocks.split(",");
        int last = parts.length - 1;
        while (parts[last].equals("e")) {
            last--;
        }
        int carried = Check.add(mill, parts).run(100);
        if (want == '-') {
            check.due(blocks, mill.alarm() + " " + mill.isOver(), "- true");
        } else {
            check.due(blocks, mill.alarm() + " " + mill.next() + " " + carried, want + " " + last + " " + last);
        }
    }

    /** Two ends; the one at 0, 2 is worn by its first cell. */
    private static ToolrestMill withShortLife() {
        ToolrestMill mill = Check.withEnds();
        mill.putCutter(0, 2, 'e', 2, 1);
        return mill;
    }

    private static ToolrestMill withFixture(int x, int y, int z) {
        ToolrestMill mill = withShortLife();
        mill.setFixture(x, y, z, true);
        return mill;
    }

    private static void changesThatAreNone() {
        check.sentence("'n', a term is none that is told above (rack and place)");
        for (int number = -50; number <= 50; number++) {
            ToolrestMill full = new ToolrestMill();
            for (int slot = 0; slot < 12; slot++) {
                full.putCutter(slot / 4, slot % 4, "ebv".charAt(slot / 4), 0, 1);
            }
            gives(number >= 0 && number <= 2 ? '-' : 'n', full, "t " + number + " 3");
            full.dropBlock();
            gives(number >= 0 && number <= 3 ? '-' : 'n', full, "t 2 " + number);
            full.dropBlock();
            gives(number >= 0 && number <= 3 ? '-' : 'n', full, "t 0 " + number);
            full.dropBlock();
            full.addBlock('v', 4, number, 0);
            full.addBlock('t', 104, 0, 0);
            full.run(100);
            check.due("rack by a variable that is " + number, full.alarm(), number >= 0 && number <= 2 ? '-' : 'n');
        }
        check.sentence("for 't' also if no cutter is there");
        for (int slot = 0; slot < 12; slot++) {
            ToolrestMill mill = new ToolrestMill();
            mill.putCutter(slot / 4, slot % 4, "ebv".charAt(slot / 4), 0, 1);
            for (int told = 0; told < 12; told++) {
                gives(told == slot ? '-' : 'n', mill, "t " + told / 4 + " " + told % 4);
                mill.dropBlock();
            }
        }
        gives('n', new ToolrestMill(), "t 0 0");
    }

    private static void otherTermsThatAreNone() {
        check.sentence("'n', a term is none that is told above (s, m, f, o, v, x)");
        String[] least = {"s -1", "m -1", "f 0", "o -1", "v -1", "x -1"};
        String[] first = {"s 0", "m 0", "f 1", "o 0", "v 0", "x 0"};
        String[] last = {"s 1", "m 1", "f 50", "o 3", "v 7", "x 7"};
        String[] most = {"s 2", "m 2", "", "o 4", "v 8", "x 8"};
        for (int i = 0; i < least.length; i++) {
            gives('n', Check.withEnds(), "t 0 0," + least[i]);
            gives('-', Check.withEnds(), "t 0 0," + first[i]);
            gives('-', Check.withEnds(), "t 0 0," + last[i]);
            if (!most[i].isEmpty()) {
                gives('n', Check.withEnds(), "t 0 0," + most[i]);
            }
            String kind = first[i].substring(0, 1);
            gives('n', Check.withEnds(), "t 0 0," + kind + " -50");
            if (!kind.equals("f")) {
                gives('n', Check.withEnds(), "t 0 0," + kind + " 50");
            }
        }
    }

    private static void repeatsThatAreNone() {
        check.sentence("for 'r', a is not 0 to 9");
        for (int number = -50; number <= 50; number++) {
            char want = number >= 0 && number <= 9 ? '-' : 'n';
            gives(want, new ToolrestMill(), "r " + number + ",e");
            ToolrestMill mill = Check.ran(new ToolrestMill(), "v 3 " + number + ",r 103,v 0 100 1,e");
            check.due("r by a variable that is " + number, mill.alarm() + " " + mill.variable(0),
                    want + " " + (want == '-' ? number : 0));
        }
        check.sentence("a term is none that is told above ('i' takes all)");
        for (int number = -50; number <= 50; number++) {
            gives('-', new ToolrestMill(), "i " + number + " 50,e");
            gives('-', new ToolrestMill(), "i 50 " + number + " " + number + ",e");
        }
    }

    private static void drillsThatAreNone() {
        check.sentence("for 'd', a is less than 0 or b less than 1");
        for (int number = -50; number <= 50; number++) {
            gives(number < 0 ? 'n' : number > 9 ? 'l' : '-', Check.withEnds(), READY + "d " + number + " 1");
            gives(number < 1 ? 'n' : '-', Check.withEnds(), READY + "d 3 " + number);
            gives(number < 1 ? 'n' : '-', Check.withEnds(), READY + "d 0 " + number);
            gives('-', Check.withEnds(), READY + "d 3 2 " + number);
        }
        gives('n', Check.withEnds(), READY + "d -1 0");
    }

    private static void pocketsThatAreNone() {
        check.sentence("for 'p', one is less than 0");
        for (int number = -50; number <= 50; number++) {
            gives(number < 0 ? 'n' : number > 11 ? 'l' : '-', Check.withEnds(), READY + "p " + number + " 0 0");
            gives(number < 0 ? 'n' : number > 7 ? 'l' : '-', Check.withEnds(), READY + "p 0 " + number + " 0");
            gives(number < 0 ? 'n' : number > 9 ? 'l' : '-', Check.withEnds(), READY + "p 0 0 " + number);
        }
        gives('n', Check.withEnds(), READY + "p -1 -1 -1");
        gives('n', Check.withEnds(), READY + "p -1 -1 1");
        gives('n', Check.withEnds(), READY + "p -1 50 50");
        gives('n', Check.withEnds(), READY + "p 50 50 -1");
    }

    private static void termsWithoutMeaning() {
        check.sentence("terms that have no meaning are told, too (they give no alarm)");
        for (int term : new int[] {-50, -1, 50, 107}) {
            for (String block : "t 0 0 C,s 1 B C,f 1 B C,m 0 B C,o 0 B C,x 0 B C,d 1 1 C,q A B C".split(",")) {
                String told = block.replace("A", "" + term).replace("B", "" + term).replace("C", "" + term);
                ToolrestMill mill = Check.withEnds("v 7 -50 0", "t 0 0", told.startsWith("t") ? "s 0" : "s 1", told);
                check.due(told, mill.run(100) + " " + mill.alarm(), "4 -");
            }
            String parts = "r 1 B C,e A B C,i 1 0 C,e A B C".replace("A", "" + term).replace("B", "" + term).replace("C", "" + term);
            gives('-', new ToolrestMill(), "v 7 -50 0," + parts);
        }
    }

    private static void spindleOnAtChange() {
        check.sentence("'t', 't' while the spindle is on");
        gives('t', Check.withEnds(), "s 1,t 0 0");
        gives('t', Check.withEnds(), "t 0 0,s 1,t 0 0");
        gives('t', Check.withEnds(), "t 0 0,s 1,t 0 1");
        gives('-', Check.withEnds(), "t 0 0,t 0 1");
        gives('-', Check.withEnds(), "s 0,t 0 0");
        gives('-', Check.withEnds(), "s 1,s 0,t 0 0");
    }

    private static void wornCutters() {
        check.sentence("'w', for 't', all such cutters are worn");
        gives('w', withShortLife(), WORN + ",s 0,t 0 2");
        gives('-', withShortLife(), WORN + ",s 0,t 0 1");
        ToolrestMill another = withShortLife();
        another.putCutter(0, 3, 'e', 2, 1);
        gives('-', another, WORN + ",s 0,t 0 2");
        gives('w', withShortLife(), WORN + ",s 0,t 0 1,t 0 2");
        check.sentence("or for a cut, the cutter is worn at the beginning of the block");
        for (String cut : "l 4 4 9,l 5 5 9,l 4 4 2,d 0 1,d 5 1,p 0 0 0,p 1 1 5".split(",")) {
            gives('w', withShortLife(), IN_HOLE + "," + cut);
        }
        gives('-', withShortLife(), "t 0 2,s 1,l 4 4 0");
        gives('-', withShortLife(), "t 0 2,s 1,d 9 1");
        gives('-', withShortLife(), "t 0 2,s 1,p 15 11 9");
        gives('-', withShortLife(), "t 0 2,s 1,l 4 4 6,l 5 4 6,l 5 4 5");
        check.sentence("'w', for 't' or for a cut alone");
        for (String other : "g 9 9 9,x 0,v 0 1 1,s 0,f 1,m 1,o 1,q".split(",")) {
            gives('-', withShortLife(), WORN + "," + other);
        }
    }

    private static void noCutter() {
        check.sentence("'s', a cut, or 'x', without a cutter");
        for (String block : "l 0 0 9,l 0 0 5,d 0 1,d 9 1,p 0 0 0,p 1 1 1".split(",")) {
            gives('s', Check.withEnds(), "s 1," + block);
            gives('s', Check.withEnds(), block);
        }
        gives('s', Check.withEnds(), "x 0");
        gives('s', Check.withEnds(), "s 1,x 7");
        gives('-', Check.withEnds(), "g 5 5 5");
        gives('-', Check.withEnds(), "s 1,g 5 5 5,v 0 1 1,f 1,m 1,o 1,q");
    }

    private static void spindleOffAtCut() {
        check.sentence("or a cut while the spindle is off");
        for (String block : "l 0 0 9,l 0 0 5,d 0 1,d 9 1,p 0 0 0,p 1 1 1".split(",")) {
            gives('s', Check.withEnds(), "t 0 0," + block);
            gives('s', Check.withEnds(), "t 0 0,s 1,s 0," + block);
            gives('-', Check.withEnds(), "t 0 0,s 1," + block);
        }
        gives('-', Check.withEnds(), "t 0 0,x 0");
        gives('-', Check.withEnds(), "t 0 0,s 1,x 0");
        gives('-', Check.withEnds(), "t 0 0,g 5 5 6");
    }

    private static void placesThatThereAreNot() {
        check.sentence("'l', a place behind a step is not one that there can be");
        for (String kind : new String[] {"g", "l"}) {
            for (String place : "15 4 9,0 4 9,4 11 9,4 0 9,4 4 9,4 4 6".split(",")) {
                gives('-', Check.withEnds(), READY + kind + " " + place);
            }
            for (String place : "16 4 9,-1 4 9,4 12 9,4 -1 9,4 4 10,4 4 -1,50 4 9,-50 4 9,4 50 9,4 -50 9,4 4 50,4 4 -50".split(",")) {
                gives('l', Check.withEnds(), READY + kind + " " + place);
            }
            for (String step : "11 0 0,-4 0 0,0 7 0,0 -4 0,0 0 0,0 0 -3".split(",")) {
                gives('-', Check.withEnds(), READY + "m 1," + kind + " " + step);
            }
            for (String step : "12 0 0,-5 0 0,0 8 0,0 -5 0,0 0 1,0 0 -10".split(",")) {
                gives('l', Check.withEnds(), READY + "m 1," + kind + " " + step);
            }
        }
        gives('-', Check.withEnds(), READY + "l 4 4 0");
        gives('-', Check.withEnds(), READY + "d 9 9");
        gives('l', Check.withEnds(), READY + "d 10 9");
        gives('l', Check.withEnds(), READY + "d 10 10");
        gives('-', Check.withEnds(), READY + "p 11 7 9");
        gives('l', Check.withEnds(), READY + "p 12 7 9");
        gives('l', Check.withEnds(), READY + "p 11 8 9");
        gives('l', Check.withEnds(), READY + "p 11 7 10");
        for (int offset = 0; offset < 4; offset++) {
            ToolrestMill mill = Check.withEnds();
            mill.setOffset(offset, 12, 0, 0);
            gives('l', mill, "o " + offset + ",g 4 4 9");
            mill.setOffset(offset, 11, 0, 0);
            mill.run(100);
            check.due("the border", mill.alarm() + " " + Check.place(mill), "- 15 4 9");
        }
    }

    private static void cornersOfPockets() {
        check.sentence("a place behind a step is not one that there can be (though the last one is)");
        gives('l', Check.withEnds(), READY + "p 12 1 0");
        gives('l', Check.withEnds(), READY + "p 50 7 0");
        gives('-', Check.withEnds(), READY + "p 11 1 0");
        gives('l', Check.withEnds(), READY + "p 3 2 10");
    }

    private static void cellsNotToReach() {
        check.sentence("'c', the cutter must not reach a cell that it would reach");
        gives('c', Check.withEnds(), READY + "g 4 4 5");
        gives('-', Check.withEnds(), READY + "g 4 4 6");
        gives('c', Check.withEnds(), READY + "g 15 11 0");
        gives('c', withFixture(4, 4, 3), READY + "l 4 4 3");
        gives('-', withFixture(4, 4, 3), READY + "l 4 4 4");
        gives('c', withFixture(4, 4, 3), READY + "l 4 4 0");
        gives('c', withFixture(4, 4, 5), READY + "l 4 4 0");
        gives('-', withFixture(4, 4, 0), READY + "l 4 4 1");
        gives('-', withFixture(4, 4, 3), READY + "d 5 2");
        gives('c', withFixture(4, 4, 3), READY + "d 6 2");
        gives('-', withFixture(4, 4, 5), READY + "d 3 1");
        gives('c', withFixture(4, 4, 5), READY + "d 4 1");
        for (int x = 3; x <= 8; x++) {
            for (int y = 3; y <= 7; y++) {
                boolean isIn = x >= 4 && x <= 7 && y >= 4 && y <= 6;
                gives(isIn ? 'c' : '-', withFixture(x, y, 5), READY + "p 3 2 4");
                gives(isIn ? 'c' : '-', withFixture(x, y, 2), READY + "p 3 2 7");
                gives('-', withFixture(x, y, 1), READY + "p 3 2 7");
            }
        }
        gives('-', withFixture(15, 11, 0), READY + "p 11 6 9");
        gives('c', withFixture(15, 11, 0), READY + "p 11 7 9");
    }

    private static void stockAtTheProbe() {
        check.sentence("'x', for 'x', the cutter reaches stock at its place");
        String hole = "t 0 0,s 1,g 4 4 9,l 4 4 5,s 0,t 0 1,";
        gives('x', Check.withEnds(), hole + "x 0");
        gives('x', Check.withEnds(), hole + "x 7");
        gives('-', Check.withEnds(), hole + "g 4 4 6,x 0");
        gives('-', Check.withEnds(), "t 0 1,s 1,g 4 4 9,l 4 4 5,s 0,t 0 0,x 0");
        gives('x', Check.withEnds(), "g 4 4 5,t 0 0,x 0");
        gives('-', Check.withEnds(), "g 4 4 6,t 0 0,x 0");
        gives('x', Check.withEnds(), "g 15 11 0,t 0 1,x 0");
    }

    private static void severalForChange() {
        check.sentence("Alarms. They are, the first one that applies (for 't')");
        gives('n', withShortLife(), WORN + ",t 0 3");
        gives('n', withShortLife(), WORN + ",t 3 0");
        gives('n', withShortLife(), WORN + ",t 0 4");
        gives('n', withShortLife(), WORN + ",t -1 -1");
        gives('n', new ToolrestMill(), "s 1,t 0 0");
        gives('t', withShortLife(), WORN + ",t 0 2");
        gives('t', withShortLife(), WORN + ",t 0 0");
        gives('w', withShortLife(), WORN + ",s 0,t 0 2");
    }

    private static void severalForSingleCut() {
        check.sentence("Alarms. They are, the first one that applies (for 'l')");
        gives('w', withShortLife(), WORN + ",s 0,l 4 4 9");
        gives('w', withShortLife(), WORN + ",s 0,l 4 4 10");
        gives('w', withShortLife(), WORN + ",l 16 4 9");
        gives('w', withFixture(4, 4, 0), WORN + ",l 4 4 0");
        gives('w', withFixture(4, 4, 0), WORN + ",s 0,l 4 4 -1");
        gives('s', withFixture(4, 4, 0), "t 0 0,g 4 4 9,l 4 4 0");
        gives('s', withFixture(4, 4, 0), "t 0 0,g 4 4 9,l 4 4 -1");
        gives('s', withFixture(4, 4, 0), "s 1,g 4 4 9,l 4 4 -1");
        gives('s', withFixture(4, 4, 0), "l 0 0 10");
        gives('l', withFixture(4, 4, 0), READY + "l 4 4 -1");
        gives('l', withFixture(5, 4, 5), "t 0 0,s 1,g 4 4 9,l 4 4 5,l 16 4 5");
        gives('c', withFixture(5, 4, 5), "t 0 0,s 1,g 4 4 9,l 4 4 5,l 15 4 5");
    }

    private static void severalForDrill() {
        check.sentence("Alarms. They are, the first one that applies (for 'd')");
        for (String none : "d -1 1,d 5 0,d 50 0,d -50 -50".split(",")) {
            gives('n', withShortLife(), none);
            gives('n', withShortLife(), "s 1," + none);
            gives('n', withShortLife(), "t 0 0," + none);
            gives('n', withShortLife(), WORN + "," + none);
            gives('n', withShortLife(), WORN + ",s 0," + none);
            gives('n', withFixture(4, 4, 5), READY + none);
        }
        gives('w', withFixture(4, 4, 0), WORN + ",s 0,d 10 1");
        gives('w', withFixture(4, 4, 0), WORN + ",d 10 1");
        gives('w', withFixture(4, 4, 0), WORN + ",d 9 1");
        gives('s', withFixture(4, 4, 5), "t 0 0,g 4 4 9,d 10 1");
        gives('s', withFixture(4, 4, 5), "t 0 0,g 4 4 9,d 9 1");
        gives('s', withFixture(4, 4, 5), "s 1,g 4 4 9,d 10 1");
        gives('l', withFixture(4, 4, 5), READY + "d 10 5");
        gives('l', withFixture(4, 4, 5), READY + "d 10 1");
        gives('c', withFixture(4, 4, 5), READY + "d 9 5");
    }

    private static void severalForPocket() {
        check.sentence("Alarms. They are, the first one that applies (for 'p')");
        for (String none : "p -1 0 0,p 0 -1 0,p 0 0 -1,p 50 50 -1,p -50 -50 -50".split(",")) {
            gives('n', withShortLife(), none);
            gives('n', withShortLife(), "s 1," + none);
            gives('n', withShortLife(), "t 0 0," + none);
            gives('n', withShortLife(), WORN + "," + none);
            gives('n', withShortLife(), WORN + ",s 0," + none);
            gives('n', withFixture(4, 4, 5), READY + none);
        }
        gives('w', withFixture(4, 4, 0), WORN + ",s 0,p 50 50 50");
        gives('w', withFixture(4, 4, 0), WORN + ",p 50 50 50");
        gives('w', withFixture(4, 4, 0), WORN + ",p 0 0 9");
        gives('s', withFixture(4, 4, 5), "t 0 0,g 4 4 9,p 0 8 9");
        gives('s', withFixture(4, 4, 5), "t 0 0,g 4 4 9,p 0 0 9");
        gives('s', withFixture(4, 4, 5), "s 1,g 4 4 9,p 0 0 10");
        gives('l', withFixture(4, 4, 5), READY + "p 0 8 9");
        gives('l', withFixture(4, 4, 5), READY + "p 12 0 4");
        gives('l', withFixture(4, 4, 5), READY + "p 0 0 10");
        gives('c', withFixture(4, 4, 5), READY + "p 11 7 9");
    }

    private static void severalForFastMove() {
        check.sentence("Alarms. They are, the first one that applies (for 'g')");
        gives('l', withFixture(4, 4, 5), READY + "g 4 4 -1");
        gives('l', Check.withEnds(), READY + "g 4 4 -1");
        gives('l', Check.withEnds(), READY + "g 16 12 0");
        gives('c', Check.withEnds(), READY + "g 15 11 0");
        gives('l', withShortLife(), WORN + ",g 16 4 9");
        gives('c', withShortLife(), WORN + ",s 0,g 4 4 4");
    }

    private static void severalForProbe() {
        check.sentence("Alarms. They are, the first one that applies (for 'x')");
        gives('n', Check.withEnds(), "x 8");
        gives('n', Check.withEnds(), "g 4 4 0,t 0 0,x 8");
        gives('n', Check.withEnds(), "g 4 4 0,t 0 0,x -1");
        gives('s', Check.withEnds(), "g 4 4 0,x 0");
        gives('x', Check.withEnds(), "g 4 4 0,t 0 0,x 0");
    }

    /** Runs the last block alone, and asks whether it has changed anything but the alarm. */
    private static void doesNothing(char alarm, ToolrestMill mill, String blocks) {
        String[] parts = blocks.split(",");
        Check.add(mill, parts).run(parts.length - 1);
        check.due("ahead of " + blocks, mill.alarm() + " " + mill.done(), "- " + (parts.length - 1));
        String before = Check.state(mill);
        check.due(blocks, mill.run(1) + " " + mill.alarm(), "0 " + alarm);
        check.due("state behind " + blocks, Check.state(mill), before.replaceFirst(" - ", " " + alarm + " "));
    }

    private static void drillDoesNothing() {
        check.sentence("A block that gives an alarm does nothing ('d')");
        doesNothing('c', withFixture(4, 4, 0), READY + "d 9 1");
        doesNothing('c', withFixture(4, 4, 0), READY + "d 9 8");
        doesNothing('l', withShortLife(), READY + "d 10 1");
        doesNothing('l', withShortLife(), READY + "d 10 9");
        doesNothing('n', withShortLife(), READY + "d 5 0");
        doesNothing('s', withShortLife(), "t 0 0,g 4 4 9,d 9 1");
        doesNothing('w', withShortLife(), WORN + ",d 9 1");
    }

    private static void pocketDoesNothing() {
        check.sentence("A block that gives an alarm does nothing ('p')");
        doesNothing('c', withFixture(7, 6, 5), READY + "p 3 2 4");
        doesNothing('c', withFixture(4, 5, 5), READY + "p 3 1 4");
        doesNothing('l', withShortLife(), READY + "p 11 8 9");
        doesNothing('l', withShortLife(), READY + "p 12 1 9");
        doesNothing('n', withShortLife(), READY + "p 3 -1 9");
        doesNothing('s', withShortLife(), "t 0 0,g 4 4 9,p 3 2 9");
        doesNothing('w', withShortLife(), WORN + ",p 3 2 9");
    }

    private static void movesDoNothing() {
        check.sentence("A block that gives an alarm does nothing ('g' and 'l')");
        doesNothing('c', withFixture(4, 4, 0), READY + "l 4 4 0");
        doesNothing('c', withFixture(9, 4, 5), READY + "l 4 4 5,l 9 4 5");
        doesNothing('l', withShortLife(), READY + "l 4 4 -1");
        doesNothing('s', withShortLife(), "t 0 0,g 4 4 9,l 4 4 0");
        doesNothing('w', withShortLife(), WORN + ",l 4 4 0");
        doesNothing('c', withShortLife(), READY + "g 9 9 5");
        doesNothing('l', withShortLife(), READY + "g 4 4 10");
        doesNothing('l', withShortLife(), "g 4 4 9,m 1,g 0 0 1");
    }

    private static void otherBlocksDoNothing() {
        check.sentence("A block that gives an alarm does nothing (other blocks)");
        doesNothing('n', withShortLife(), "v 0 5 0,v 8 1 1");
        doesNothing('n', withShortLife(), "t 0 0,t 0 3");
        doesNothing('t', withShortLife(), "t 0 0,s 1,t 0 1");
        doesNothing('w', withShortLife(), WORN + ",s 0,t 0 0,t 0 2");
        doesNothing('s', withShortLife(), "v 0 5 0,x 0");
        doesNothing('x', withShortLife(), "v 0 5 0,g 4 4 5,t 0 0,x 0");
        doesNothing('n', withShortLife(), "t 0 0,x 8");
        ToolrestMill mill = Check.ran(withShortLife(), "t 0 0,s 1,f 5,m 1,v 0 1 0,s 2");
        check.due("at 's 2'", mill.alarm(), 'n');
        ToolrestMill repeats = Check.program("v 0 10 0", "r 100", "v 1 1 0", "e");
        repeats.run(100);
        check.due("at 'r 10'", repeats.alarm() + " " + repeats.next() + " " + repeats.done() + " " + repeats.variable(1), "n 1 1 0");
    }
}
