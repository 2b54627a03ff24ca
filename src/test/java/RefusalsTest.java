import java.util.NoSuchElementException;
import java.util.function.Consumer;

/** Calls that are refused: what they throw, which of several it is, and that they change nothing. */
public final class RefusalsTest {
    private static final int LEAST = Integer.MIN_VALUE;
    private static final int MOST = Integer.MAX_VALUE;
    private static final int[] NO_STATION = {-1, 4, 5, LEAST, MOST};
    private static final int[] NO_DOCUMENT = {-1, 10, 11, LEAST, MOST};
    private static final int[] NO_CARTRIDGE = {-1, 3, 4, LEAST, MOST};
    private static final int[] NO_COUNTER = {-1, 4, 5, LEAST, MOST};
    private static final Class<NoSuchElementException> NO_SUCH = NoSuchElementException.class;
    private static final Class<IllegalArgumentException> ILLEGAL = IllegalArgumentException.class;
    private static final Class<UnsupportedOperationException> UNSUPPORTED = UnsupportedOperationException.class;
    private static final Class<IndexOutOfBoundsException> BOUNDS = IndexOutOfBoundsException.class;
    private static final Checks CHECKS = new Checks();

    private final Consumer<FolderRounds> before;
    private final String picture;

    private RefusalsTest(Consumer<FolderRounds> before) {
        this.before = before;
        picture = Picture.of(before);
    }

    public static void main(String[] args) {
        busyIsAsTold();
        RefusalsTest busy = new RefusalsTest(RefusalsTest::busy);
        CHECKS.sentence("Terms", "A call that throws changes nothing");
        busy.noSuchStation();
        busy.noSuchDocument();
        busy.noSuchCartridge();
        busy.noSuchVersion();
        busy.editOutsideItsLimits();
        busy.editOver300Bytes();
        busy.cutBelow0();
        busy.indexOutOfBounds();
        CHECKS.sentence("Terms", "where several exceptions that a call names fit, it is the one that it names first");
        busy.firstNamedOfEdit();
        busy.firstNamedOfQuestions();
        busy.firstNamedOfCut();
        RefusalsTest counted = new RefusalsTest(RefusalsTest::counted);
        CHECKS.sentence("Promises 2 and 3", "UnsupportedOperationException when the counter is 200");
        counted.counterIs200();
        CHECKS.sentence("Not promised", "Nothing is promised beyond the answers and state changes described above");
        busy.questionsChangeNothing();
        CHECKS.finish();
    }

    /**
     * Station 0 has versions and a mark, station 1 has 300 bytes and left one out, station 3 has one
     * version; cartridge 0 was unloaded by half, 1 and 2 are loaded.
     */
    private static void busy(FolderRounds x) {
        for (int d = 0; d < 7; d++) {
            x.edit(1, d, 40, d);
        }
        x.edit(1, 7, 20, 7);
        x.edit(0, 0, 5, 250);
        x.edit(0, 1, 0, 0);
        x.erase(0, 2);
        x.edit(2, 0, 3, 3);
        x.visit(0, 0, 2);
        x.copy(0, 1);
        x.visit(1, 1, 12);
        x.visit(2, 2, 1);
        x.visit(2, 0, 8);
        x.cut(0, 3, 15, 1);
    }

    /** Where nothing stood, nothing could be changed by a call that should not. */
    private static void busyIsAsTold() {
        FolderRounds x = new FolderRounds();
        busy(x);
        CHECKS.due("siblings at 0", x.siblings(0, 0), 2);
        CHECKS.due("marks at 0", x.marks(0), 1);
        CHECKS.due("bytes at 1", x.bytes(1), 300);
        CHECKS.due("leftOut", x.leftOut(), 1);
        CHECKS.due("siblings at 3", x.siblings(3, 0), 1);
        CHECKS.rowLength(x, 0, 2);
        CHECKS.rowLength(x, 1, 2);
        CHECKS.due("the row of 2 is not empty", x.room(2) < 100, true);
    }

    /** Station 2 made 200 versions of document 5. */
    private static void counted(FolderRounds x) {
        for (int i = 0; i < 199; i++) {
            x.edit(2, 5, 40, i);
        }
        x.edit(2, 5, 30, 1);
    }

    private void refused(String name, Class<? extends RuntimeException> due, Consumer<FolderRounds> call) {
        FolderRounds x = new FolderRounds();
        before.accept(x);
        CHECKS.throwsDue(name, due, () -> call.accept(x));
        String then = Picture.of(before.andThen(y -> callAndForget(y, call)));
        CHECKS.due(name + ": what is seen before and after is the same", then.equals(picture), true);
    }

    private static void callAndForget(FolderRounds x, Consumer<FolderRounds> call) {
        try {
            call.accept(x);
        } catch (RuntimeException e) {
            // What it throws is looked at elsewhere.
        }
    }

    private void noSuchStation() {
        for (int s : NO_STATION) {
            refused("edit at station " + s, NO_SUCH, x -> x.edit(s, 0, 1, 1));
            refused("erase at station " + s, NO_SUCH, x -> x.erase(s, 0));
            refused("siblings at station " + s, NO_SUCH, x -> x.siblings(s, 0));
            refused("counter at station " + s, NO_SUCH, x -> x.counter(s, 0, 0, 0));
            refused("byteOf at station " + s, NO_SUCH, x -> x.byteOf(s, 0, 0, -1));
            refused("visit at station " + s, NO_SUCH, x -> x.visit(0, s, 15));
            refused("cut at station " + s, NO_SUCH, x -> x.cut(0, s, 15, 1));
            refused("known at station " + s, NO_SUCH, x -> x.known(s, 0, 0, 0));
            refused("known of station " + s, NO_SUCH, x -> x.known(0, s, 0, 0));
            refused("marks at station " + s, NO_SUCH, x -> x.marks(s));
            refused("bytes at station " + s, NO_SUCH, x -> x.bytes(s));
            refused("same of station " + s, NO_SUCH, x -> x.same(s, 0));
            refused("same with station " + s, NO_SUCH, x -> x.same(0, s));
            refused("same of no station with itself " + s, NO_SUCH, x -> x.same(s, s));
        }
    }

    private void noSuchDocument() {
        for (int d : NO_DOCUMENT) {
            refused("edit of document " + d, NO_SUCH, x -> x.edit(0, d, 1, 1));
            refused("erase of document " + d, NO_SUCH, x -> x.erase(0, d));
            refused("siblings of document " + d, NO_SUCH, x -> x.siblings(0, d));
            refused("counter of document " + d, NO_SUCH, x -> x.counter(0, d, 0, 0));
            refused("byteOf of document " + d, NO_SUCH, x -> x.byteOf(0, d, 0, -1));
            refused("known of document " + d, NO_SUCH, x -> x.known(0, 0, d, 0));
        }
    }

    private void noSuchCartridge() {
        for (int c : NO_CARTRIDGE) {
            refused("visit of cartridge " + c, NO_SUCH, x -> x.visit(c, 0, 15));
            refused("cut of cartridge " + c, NO_SUCH, x -> x.cut(c, 0, 15, 1));
            refused("lose of cartridge " + c, NO_SUCH, x -> x.lose(c));
            refused("copy from cartridge " + c, NO_SUCH, x -> x.copy(c, 0));
            refused("copy to cartridge " + c, NO_SUCH, x -> x.copy(0, c));
            refused("copy from and to cartridge " + c, NO_SUCH, x -> x.copy(c, c));
            refused("room of cartridge " + c, NO_SUCH, x -> x.room(c));
            refused("item of cartridge " + c, NO_SUCH, x -> x.item(c, 0, 0));
        }
    }

    /** Station 0 has two versions of document 0, a mark alone of 2; cartridge 0 has two versions. */
    private void noSuchVersion() {
        for (int k : new int[] {-1, 2, 3, LEAST, MOST}) {
            refused("counter of version " + k, NO_SUCH, x -> x.counter(0, 0, k, 0));
            refused("byteOf of version " + k, NO_SUCH, x -> x.byteOf(0, 0, k, -1));
            refused("item of version " + k, NO_SUCH, x -> x.item(0, k, 0));
        }
        refused("counter of a mark", NO_SUCH, x -> x.counter(0, 2, 0, 0));
        refused("byteOf of a mark", NO_SUCH, x -> x.byteOf(0, 2, 0, -1));
        refused("counter where nothing stands", NO_SUCH, x -> x.counter(0, 9, 0, 0));
        refused("byteOf where nothing stands", NO_SUCH, x -> x.byteOf(0, 9, 0, 0));
    }

    private void editOutsideItsLimits() {
        for (int length : new int[] {-1, 41, 42, LEAST, MOST}) {
            refused("edit of length " + length, ILLEGAL, x -> x.edit(0, 0, length, 1));
        }
        for (int fill : new int[] {-1, 256, 257, LEAST, MOST}) {
            refused("edit of fill " + fill, ILLEGAL, x -> x.edit(0, 0, 1, fill));
            refused("edit of no bytes and fill " + fill, ILLEGAL, x -> x.edit(0, 0, 0, fill));
        }
    }

    private void editOver300Bytes() {
        refused("edit to 301 bytes", UNSUPPORTED, x -> x.edit(1, 8, 1, 0));
        refused("edit to 340 bytes", UNSUPPORTED, x -> x.edit(1, 9, 40, 0));
        refused("edit to 301 bytes, 20 replaced", UNSUPPORTED, x -> x.edit(1, 7, 21, 0));
    }

    private void cutBelow0() {
        for (int n : new int[] {-1, -2, LEAST}) {
            refused("cut after " + n, ILLEGAL, x -> x.cut(0, 3, 15, n));
        }
    }

    private void indexOutOfBounds() {
        for (int j : NO_COUNTER) {
            refused("counter " + j, BOUNDS, x -> x.counter(0, 0, 0, j));
            refused("known counter " + j, BOUNDS, x -> x.known(0, 1, 0, j));
        }
        for (int i : new int[] {-2, 5, 6, LEAST, MOST}) {
            refused("byte " + i + " of 5", BOUNDS, x -> x.byteOf(0, 0, 1, i));
        }
        for (int i : new int[] {-2, 0, 1, LEAST, MOST}) {
            refused("byte " + i + " of none", BOUNDS, x -> x.byteOf(0, 1, 0, i));
        }
        for (int what : new int[] {-1, 6, 7, LEAST, MOST}) {
            refused("item " + what, BOUNDS, x -> x.item(0, 0, what));
        }
    }

    private void firstNamedOfEdit() {
        refused("no station, length 41", NO_SUCH, x -> x.edit(4, 0, 41, 0));
        refused("no station, fill 256", NO_SUCH, x -> x.edit(-1, 0, 1, 256));
        refused("no document, length -1", NO_SUCH, x -> x.edit(0, 10, -1, 0));
        refused("no document, fill -1", NO_SUCH, x -> x.edit(0, -1, 1, -1));
        refused("no document, over 300 bytes", NO_SUCH, x -> x.edit(1, 10, 40, 0));
        refused("length 41, over 300 bytes", ILLEGAL, x -> x.edit(1, 8, 41, 0));
        refused("fill 256, over 300 bytes", ILLEGAL, x -> x.edit(1, 8, 40, 256));
    }

    private void firstNamedOfQuestions() {
        refused("counter: no station, j 4", NO_SUCH, x -> x.counter(4, 0, 0, 4));
        refused("counter: no document, j -1", NO_SUCH, x -> x.counter(0, 10, 0, -1));
        refused("counter: no version, j 4", NO_SUCH, x -> x.counter(0, 0, 2, 4));
        refused("byteOf: no station, i -2", NO_SUCH, x -> x.byteOf(-1, 0, 0, -2));
        refused("byteOf: no document, i 40", NO_SUCH, x -> x.byteOf(0, -1, 0, 40));
        refused("byteOf: no version, i -2", NO_SUCH, x -> x.byteOf(0, 0, -1, -2));
        refused("known: no station, j 4", NO_SUCH, x -> x.known(4, 0, 0, 4));
        refused("known: no other, j -1", NO_SUCH, x -> x.known(0, 4, 0, -1));
        refused("known: no document, j 4", NO_SUCH, x -> x.known(0, 0, 10, 4));
        refused("item: no cartridge, what 6", NO_SUCH, x -> x.item(3, 0, 6));
        refused("item: no version, what -1", NO_SUCH, x -> x.item(0, 2, -1));
    }

    private void firstNamedOfCut() {
        refused("no cartridge, n -1", NO_SUCH, x -> x.cut(3, 0, 15, -1));
        refused("no station, n -1", NO_SUCH, x -> x.cut(0, 4, 15, -1));
    }

    private void counterIs200() {
        refused("edit", UNSUPPORTED, x -> x.edit(2, 5, 1, 1));
        refused("edit of no bytes", UNSUPPORTED, x -> x.edit(2, 5, 0, 0));
        refused("erase", UNSUPPORTED, x -> x.erase(2, 5));
        refused("edit of length 41", ILLEGAL, x -> x.edit(2, 5, 41, 1));
        refused("edit of fill 256", ILLEGAL, x -> x.edit(2, 5, 1, 256));
        refused("edit of no station", NO_SUCH, x -> x.edit(4, 5, 1, 1));
        refused("erase of no document", NO_SUCH, x -> x.erase(2, 10));
    }

    private void questionsChangeNothing() {
        String then = Picture.of(before.andThen(RefusalsTest::askAll));
        CHECKS.due("what is seen before and after questions is the same", then.equals(picture), true);
    }

    private static void askAll(FolderRounds x) {
        x.siblings(0, 0);
        x.counter(0, 0, 1, 0);
        x.byteOf(0, 0, 1, -1);
        x.byteOf(0, 0, 1, 4);
        x.known(0, 1, 0, 0);
        x.marks(0);
        x.bytes(1);
        x.same(0, 1);
        x.room(0);
        x.item(0, 1, 5);
        x.leftOut();
    }
}
