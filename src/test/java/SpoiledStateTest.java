import java.lang.reflect.Field;

/**
 * No calls of the face make a mill unsound, or make has() and hasAnew() differ. So that promises 19 and 27 show what they look
 * at, the state is spoiled from inside here.
 */
public final class SpoiledStateTest {
    private static final Check check = new Check();

    public static void main(String[] args) throws ReflectiveOperationException {
        cells();
        times();
        uses();
        fixtures();
        blocksDone();
        check.end();
    }

    /** The cells 0 0 5 to 4 0 5 are taken, in 0.8 units of time, and the fixture at 9 9 5 stays. */
    private static ToolrestMill mill() {
        ToolrestMill mill = Check.withEnds();
        mill.setFixture(9, 9, 5, true);
        return Check.ran(mill, "t 0 0,s 1,l 0 0 5,l 4 0 5");
    }

    private static Field field(Object of, String name) throws ReflectiveOperationException {
        Field field = of.getClass().getDeclaredField(name);
        field.setAccessible(true);
        return field;
    }

    private static Object inside(Object of, String... names) throws ReflectiveOperationException {
        Object inside = of;
        for (String name : names) {
            inside = field(inside, name).get(inside);
        }
        return inside;
    }

    /** Turns one cell of a set of cells. */
    private static void turn(int x, int y, int z, ToolrestMill mill, String... cells) throws ReflectiveOperationException {
        int[] rows = (int[]) inside(inside(mill, cells), "rows");
        rows[12 * z + y] ^= 1 << x;
    }

    private static void use(ToolrestMill mill, int more) throws ReflectiveOperationException {
        int[] uses = (int[]) inside(mill, "controller", "uses");
        uses[0] += more;
    }

    private static void due(String what, ToolrestMill mill, boolean isSound) {
        check.due(what, mill.isSound(), isSound);
    }

    private static void cells() throws ReflectiveOperationException {
        check.sentence("each cell is stock by both ways");
        for (int cell = 0; cell < 1152; cell += 5) {
            int x = cell % 16;
            int y = cell / 16 % 12;
            int z = cell / 192;
            ToolrestMill mill = mill();
            due("as it was run", mill, true);
            boolean isStock = mill.has(x, y, z);
            turn(x, y, z, mill, "controller", "stockCells");
            use(mill, isStock ? 1 : -1);
            check.due("uses still add up", mill.used(0, 0), 1152 - mill.stock());
            due("the cell " + x + " " + y + " " + z + " is spoiled", mill, false);
            check.due("as it is held", mill.has(x, y, z), !isStock);
            check.due("as it is from nothing", mill.hasAnew(x, y, z), isStock);
            turn(x, y, z, mill, "controller", "stockCells");
            use(mill, isStock ? -1 : 1);
            due("mended", mill, true);
        }
    }

    private static void times() throws ReflectiveOperationException {
        check.sentence("the time is the same by both");
        for (float more : new float[] {1f, -0.5f, 0.0001f}) {
            ToolrestMill mill = mill();
            Object controller = inside(mill, "controller");
            Field time = field(controller, "timeSoFar");
            float before = mill.time();
            time.setFloat(controller, before + more);
            check.due("time", mill.time(), before + more);
            due("time by " + more, mill, false);
            time.setFloat(controller, before);
            due("mended", mill, true);
        }
    }

    private static void uses() throws ReflectiveOperationException {
        check.sentence("the uses of cutters add up to what was taken");
        for (int more : new int[] {1, -1, -5, 1000}) {
            ToolrestMill mill = mill();
            use(mill, more);
            due("a use by " + more, mill, false);
            use(mill, -more);
            due("mended", mill, true);
            int[] uses = (int[]) inside(mill, "controller", "uses");
            uses[0] -= 2;
            uses[1] += 2;
            due("the sum is what counts", mill, true);
        }
    }

    private static void fixtures() throws ReflectiveOperationException {
        check.sentence("and no fixture was cut");
        for (int x = 0; x < 5; x++) {
            ToolrestMill mill = mill();
            turn(x, 0, 5, mill, "house", "fixtures");
            due("a fixture at " + x, mill, false);
            turn(x, 0, 5, mill, "house", "fixtures");
            due("none any more", mill, true);
        }
        ToolrestMill mill = mill();
        turn(9, 9, 5, mill, "controller", "stockCells");
        due("the fixture is gone", mill, false);
    }

    private static void blocksDone() throws ReflectiveOperationException {
        check.sentence("found by carrying out as many blocks from nothing");
        ToolrestMill mill = mill();
        Object controller = inside(mill, "controller");
        Field done = field(controller, "doneBlocks");
        for (int blocks = 0; blocks <= 4; blocks++) {
            done.setInt(controller, blocks);
            for (int x = 0; x <= 5; x++) {
                boolean isTaken = blocks >= 3 && x == 0 || blocks == 4 && x <= 4;
                check.due("cell " + x + " by " + blocks + " blocks", mill.hasAnew(x, 0, 5), !isTaken);
            }
            due("sound with " + blocks + " blocks", mill, blocks == 4);
        }
    }
}
