import java.util.HashSet;
import java.util.Objects;
import java.util.Set;

/** Counts the answers that are not the ones that are due, and tells programs in short. */
final class Check {
    /** A call that may throw. */
    interface Call {
        Object answer();
    }

    /** A call of a new mill with a number that may be out of range. */
    interface CallWith {
        Object answer(int number);
    }

    private int asked;
    private int wrong;
    private int sentences;
    private String sentence = "";

    /** The document's sentence that the answers behind it are asked for. */
    void sentence(String words) {
        sentences++;
        sentence = words + ": ";
    }

    void due(String what, Object got, Object want) {
        asked++;
        if (!Objects.equals(got, want)) {
            wrong++;
            System.out.println(sentence + what + " answered " + got + ", due is " + want);
        }
    }

    /** Exactly this exception, no class below it. */
    void dueThrow(String what, Class<? extends RuntimeException> want, Call call) {
        due(what + " throws", thrownBy(call), want);
    }

    /** The numbers from least to most are taken, and no others; each is put to a call of its own. */
    void dueRange(String what, int least, int most, Class<? extends RuntimeException> want, CallWith call) {
        Set<Integer> numbers = new HashSet<>();
        for (int number = least - 60; number <= most + 60; number++) {
            numbers.add(number);
        }
        for (int shift = 8; shift < 32; shift++) {
            for (int number : new int[] {least, least + 1, most}) {
                numbers.add(number + (1 << shift));
                numbers.add(number - (1 << shift));
            }
        }
        numbers.add(Integer.MIN_VALUE);
        numbers.add(Integer.MAX_VALUE);
        for (int number : numbers) {
            boolean isTaken = number >= least && number <= most;
            due(what + " " + number + " throws", thrownBy(() -> call.answer(number)), isTaken ? null : want);
        }
    }

    static Class<?> thrownBy(Call call) {
        try {
            call.answer();
            return null;
        } catch (RuntimeException e) {
            return e.getClass();
        }
    }

    void end() {
        String told = sentences == 0 ? "" : sentences + " sentences, ";
        System.out.println(told + asked + " answers asked, " + wrong + " not as due");
        if (wrong != 0) {
            System.exit(1);
        }
    }

    /** Adds blocks such as "g 2 2 6"; terms that are left out are 0. */
    static ToolrestMill add(ToolrestMill mill, String... blocks) {
        for (String block : blocks) {
            String[] parts = block.split(" ");
            int[] terms = new int[3];
            for (int i = 1; i < parts.length; i++) {
                terms[i - 1] = Integer.parseInt(parts[i]);
            }
            mill.addBlock(parts[0].charAt(0), terms[0], terms[1], terms[2]);
        }
        return mill;
    }

    static ToolrestMill program(String... blocks) {
        return add(new ToolrestMill(), blocks);
    }

    /** A mill with an end of the radius 0 at 0, 0 and one of the radius 1 at 0, 1, and a long life. */
    static ToolrestMill withEnds(String... blocks) {
        ToolrestMill mill = new ToolrestMill();
        mill.putCutter(0, 0, 'e', 0, 999);
        mill.putCutter(0, 1, 'e', 1, 999);
        return add(mill, blocks);
    }

    /** A mill with an end, a ball and a point of the radius 2 at the places 0 of the racks, and a long life. */
    static ToolrestMill withShapes(String... blocks) {
        ToolrestMill mill = new ToolrestMill();
        mill.putCutter(0, 0, 'e', 2, 999);
        mill.putCutter(1, 0, 'b', 2, 999);
        mill.putCutter(2, 0, 'v', 2, 999);
        return add(mill, blocks);
    }

    /** Adds blocks such as "t 0 0,s 1" and runs. */
    static ToolrestMill ran(ToolrestMill mill, String blocks) {
        add(mill, blocks.split(","));
        mill.run(100);
        return mill;
    }

    static String place(ToolrestMill mill) {
        return mill.at(0) + " " + mill.at(1) + " " + mill.at(2);
    }

    /** All that can be asked without an argument out of range, in one text. */
    static String state(ToolrestMill mill) {
        StringBuilder text = new StringBuilder();
        text.append(mill.isClosed()).append(' ').append(mill.alarm()).append(' ').append(mill.isOver());
        text.append(' ').append(mill.next()).append(' ').append(mill.done()).append(' ').append(mill.cutter());
        for (int i = 0; i < 8; i++) {
            text.append(" v").append(mill.variable(i));
        }
        for (int i = 0; i < 3; i++) {
            text.append(" @").append(mill.at(i));
        }
        for (int i = 0; i < 12; i++) {
            int slot = i;
            Class<?> thrown = thrownBy(() -> mill.used(slot / 4, slot % 4));
            text.append(" u").append(thrown == null ? mill.used(i / 4, i % 4) : thrown.getSimpleName());
        }
        text.append(' ').append(mill.stock()).append(' ').append(mill.checksum());
        text.append(' ').append(mill.time()).append(' ').append(mill.timeBits());
        text.append(' ').append(mill.taken()).append(' ').append(mill.isSound());
        Class<?> thrown = thrownBy(mill::meanUse);
        text.append(' ').append(thrown == null ? mill.meanUse() : thrown.getSimpleName());
        return text.toString();
    }
}
