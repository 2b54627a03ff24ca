import java.util.Arrays;
import java.util.Random;
import java.util.function.IntSupplier;

/** Long runs of calls, whose every answer is compared with the model's. */
public final class ModelTest {
    private static final int RUNS = 1500;
    private static final int CALLS = 512;
    private static final Checks CHECKS = new Checks();

    /** How a run chooses its calls: a few documents meet one another more often than ten do. */
    private final Random random;
    private final int documents;
    private final int lengths;
    private final int wrongInputs;
    private final int questions;
    private final FolderRounds x = new FolderRounds();
    private final Model m = new Model();

    private ModelTest(int seed) {
        random = new Random(seed);
        documents = new int[] {1, 2, 4, 10}[random.nextInt(4)];
        lengths = new int[] {1, 5, 41, 41}[random.nextInt(4)];
        wrongInputs = random.nextInt(3) == 0 ? 10 : 200;
        questions = 20 + random.nextInt(60);
    }

    public static void main(String[] args) {
        for (int seed = 0; seed < RUNS; seed++) {
            ModelTest run = new ModelTest(seed);
            for (int call = 0; call < CALLS; call++) {
                run.next("run " + seed + " call " + call + ": ");
            }
        }
        oneDocumentToItsLastCounter();
        CHECKS.finish();
    }

    private static void oneDocumentToItsLastCounter() {
        ModelTest run = new ModelTest(0);
        for (int i = 0; i < 205; i++) {
            run.compare("edits ", "edit", 0, 0, i % 41, i % 256);
            run.compare("edits ", "erase", 1, 0);
        }
        run.compare("edits ", "visit", 0, 0, 2);
        run.compare("edits ", "visit", 0, 1, 13);
        run.compare("edits ", "visit", 0, 2, 11);
        run.compare("edits ", "edit", 2, 0, 1, 1);
        for (int j = 0; j < 4; j++) {
            run.compare("edits ", "counter", 2, 0, 0, j);
        }
    }

    /** A number below the bound, or seldom one that is wrong. */
    private int below(int bound) {
        if (random.nextInt(wrongInputs) == 0) {
            return new int[] {-1, bound, -2, bound + 1, Integer.MIN_VALUE, Integer.MAX_VALUE}[random.nextInt(6)];
        }
        return random.nextInt(bound);
    }

    private int anyDocument() {
        return random.nextInt(wrongInputs) == 0 ? below(10) : random.nextInt(documents);
    }

    private int anyLength() {
        int length = below(lengths);
        return length == lengths && lengths < 41 ? 40 : length;
    }

    private int anyDestinations() {
        return random.nextInt(8) == 0 ? random.nextInt() : random.nextInt(16);
    }

    private void next(String where) {
        if (random.nextInt(100) < questions) {
            ask(where);
        } else {
            change(where);
        }
    }

    private void change(String where) {
        int kind = random.nextInt(100);
        if (kind < 35) {
            compare(where, "edit", below(4), anyDocument(), anyLength(), below(256));
        } else if (kind < 45) {
            compare(where, "erase", below(4), anyDocument());
        } else if (kind < 80) {
            compare(where, "visit", below(3), below(4), anyDestinations());
        } else if (kind < 92) {
            compare(where, "cut", below(3), below(4), anyDestinations(), below(14));
        } else if (kind < 94) {
            compare(where, "lose", below(3));
        } else {
            compare(where, "copy", below(3), below(3));
        }
    }

    private void ask(String where) {
        switch (random.nextInt(10)) {
            case 0 -> compare(where, "siblings", below(4), anyDocument());
            case 1 -> compare(where, "counter", below(4), anyDocument(), random.nextInt(3), below(4));
            case 2 -> compare(where, "byteOf", below(4), anyDocument(), random.nextInt(3), random.nextInt(43) - 2);
            case 3 -> compare(where, "known", below(4), below(4), anyDocument(), below(4));
            case 4 -> compare(where, "marks", below(4));
            case 5 -> compare(where, "bytes", below(4));
            case 6 -> compare(where, "same", below(4), below(4));
            case 7 -> compare(where, "room", below(3));
            case 8 -> compare(where, "item", below(3), random.nextInt(6), below(6));
            default -> compare(where, "leftOut");
        }
    }

    private void compare(String where, String call, int... a) {
        String got = answer(() -> ofProgram(call, a));
        String want = answer(() -> ofModel(call, a));
        if (!got.equals(want)) {
            System.out.println(where + call + Arrays.toString(a) + " answered " + got + ", due is " + want);
            CHECKS.due("a call of a run", 0, 1);
            CHECKS.finish();
        }
    }

    private static String answer(IntSupplier call) {
        try {
            return Integer.toString(call.getAsInt());
        } catch (RuntimeException e) {
            return e.getClass().getName();
        }
    }

    private int ofProgram(String call, int[] a) {
        switch (call) {
            case "edit": x.edit(a[0], a[1], a[2], a[3]); return 0;
            case "erase": x.erase(a[0], a[1]); return 0;
            case "siblings": return x.siblings(a[0], a[1]);
            case "counter": return x.counter(a[0], a[1], a[2], a[3]);
            case "byteOf": return x.byteOf(a[0], a[1], a[2], a[3]);
            case "visit": return x.visit(a[0], a[1], a[2]);
            case "cut": return x.cut(a[0], a[1], a[2], a[3]);
            case "lose": return x.lose(a[0]);
            case "copy": x.copy(a[0], a[1]); return 0;
            case "known": return x.known(a[0], a[1], a[2], a[3]);
            case "marks": return x.marks(a[0]);
            case "bytes": return x.bytes(a[0]);
            case "same": return x.same(a[0], a[1]) ? 1 : 0;
            case "room": return x.room(a[0]);
            case "item": return x.item(a[0], a[1], a[2]);
            default: return x.leftOut();
        }
    }

    private int ofModel(String call, int[] a) {
        switch (call) {
            case "edit": return m.edit(a[0], a[1], a[2], a[3]);
            case "erase": return m.erase(a[0], a[1]);
            case "siblings": return m.siblings(a[0], a[1]);
            case "counter": return m.counter(a[0], a[1], a[2], a[3]);
            case "byteOf": return m.byteOf(a[0], a[1], a[2], a[3]);
            case "visit": return m.visit(a[0], a[1], a[2]);
            case "cut": return m.cut(a[0], a[1], a[2], a[3]);
            case "lose": return m.lose(a[0]);
            case "copy": return m.copy(a[0], a[1]);
            case "known": return m.known(a[0], a[1], a[2], a[3]);
            case "marks": return m.marks(a[0]);
            case "bytes": return m.bytes(a[0]);
            case "same": return m.same(a[0], a[1]);
            case "room": return m.room(a[0]);
            case "item": return m.item(a[0], a[1], a[2]);
            default: return m.leftOut();
        }
    }
}
