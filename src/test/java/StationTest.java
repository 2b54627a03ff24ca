/** Promises 1 to 6 and 11 to 14: what is made and what stands at stations. */
public final class StationTest {
    private static final Checks CHECKS = new Checks();

    public static void main(String[] args) {
        promise1NewObject();
        promise2EditReplacesWhatStood();
        promise2EditEdges();
        promise2EditAtMost300Bytes();
        promise2EditAtMost200();
        promise3EraseMakesMark();
        promise3EraseAtMost200();
        promise4To6SiblingsInOrder();
        promise6Bytes();
        promise11KnownOfItself();
        promise12Marks();
        promise13Bytes();
        promise14Same();
        CHECKS.finish();
    }

    private static void promise1NewObject() {
        FolderRounds x = new FolderRounds();
        for (int s = 0; s < 4; s++) {
            CHECKS.due("new marks", x.marks(s), 0);
            CHECKS.due("new bytes", x.bytes(s), 0);
            for (int d = 0; d < 10; d++) {
                CHECKS.due("new siblings", x.siblings(s, d), 0);
                CHECKS.known(x, s, (s + d) % 4, d, 0, 0, 0, 0);
            }
        }
        for (int c = 0; c < 3; c++) {
            CHECKS.due("new room", x.room(c), 100);
            CHECKS.rowLength(x, c, 0);
            CHECKS.due("new lose", x.lose(c), 0);
        }
        CHECKS.due("new leftOut", x.leftOut(), 0);
    }

    private static void promise2EditReplacesWhatStood() {
        FolderRounds x = new FolderRounds();
        x.edit(2, 4, 7, 9);
        CHECKS.due("siblings", x.siblings(2, 4), 1);
        CHECKS.sibling(x, 2, 4, 0, 7, 0, 0, 1, 0);
        x.edit(2, 4, 3, 1);
        CHECKS.due("siblings", x.siblings(2, 4), 1);
        CHECKS.sibling(x, 2, 4, 0, 3, 0, 0, 2, 0);
        CHECKS.due("byteOf", x.byteOf(2, 4, 0, 0), 1);
        CHECKS.due("siblings of another document", x.siblings(2, 5), 0);
        CHECKS.due("siblings of another station", x.siblings(1, 4), 0);
        x.edit(2, 5, 1, 0);
        CHECKS.sibling(x, 2, 5, 0, 1, 0, 0, 1, 0);
        CHECKS.due("siblings, the other edited", x.siblings(2, 4), 1);
    }

    private static void promise2EditEdges() {
        FolderRounds x = new FolderRounds();
        x.edit(0, 0, 0, 0);
        CHECKS.due("siblings of length 0", x.siblings(0, 0), 1);
        x.edit(3, 9, 40, 255);
        CHECKS.sibling(x, 3, 9, 0, 40, 0, 0, 0, 1);
        CHECKS.noSuchElement("edit(4, ..)", () -> x.edit(4, 0, 1, 1));
        CHECKS.noSuchElement("edit(-1, ..)", () -> x.edit(-1, 0, 1, 1));
        CHECKS.noSuchElement("edit(0, 10, ..)", () -> x.edit(0, 10, 1, 1));
        CHECKS.noSuchElement("edit(0, -1, ..)", () -> x.edit(0, -1, 1, 1));
        CHECKS.noSuchElement("edit(4, 0, 41, 1)", () -> x.edit(4, 0, 41, 1));
        CHECKS.noSuchElement("edit(0, 10, 1, 256)", () -> x.edit(0, 10, 1, 256));
        CHECKS.illegalArgument("edit(.., 41, 1)", () -> x.edit(0, 0, 41, 1));
        CHECKS.illegalArgument("edit(.., -1, 1)", () -> x.edit(0, 0, -1, 1));
        CHECKS.illegalArgument("edit(.., 1, 256)", () -> x.edit(0, 0, 1, 256));
        CHECKS.illegalArgument("edit(.., 1, -1)", () -> x.edit(0, 0, 1, -1));
        CHECKS.known(x, 0, 0, 0, 1, 0, 0, 0);
        CHECKS.sibling(x, 0, 0, 0, 0, 1, 0, 0, 0);
    }

    private static void promise2EditAtMost300Bytes() {
        FolderRounds x = new FolderRounds();
        for (int d = 0; d < 7; d++) {
            x.edit(1, d, 40, d);
        }
        CHECKS.unsupported("edit over 300", () -> x.edit(1, 7, 21, 0));
        CHECKS.due("bytes", x.bytes(1), 280);
        CHECKS.due("siblings", x.siblings(1, 7), 0);
        CHECKS.known(x, 1, 1, 7, 0, 0, 0, 0);
        CHECKS.illegalArgument("edit too long and over 300", () -> x.edit(1, 7, 41, 0));
        x.edit(1, 7, 20, 0);
        CHECKS.due("bytes", x.bytes(1), 300);
        x.edit(1, 0, 40, 200);
        CHECKS.due("bytes, as many replaced", x.bytes(1), 300);
        CHECKS.unsupported("edit over 300 by one", () -> x.edit(1, 7, 21, 0));
        CHECKS.sibling(x, 1, 7, 0, 20, 0, 1, 0, 0);
        x.edit(1, 8, 0, 0);
        CHECKS.due("siblings of length 0 at 300 bytes", x.siblings(1, 8), 1);
        x.edit(0, 7, 40, 0);
        CHECKS.due("bytes of another station", x.bytes(0), 40);
        CHECKS.due("leftOut: edits throw instead", x.leftOut(), 0);
    }

    private static void promise2EditAtMost200() {
        FolderRounds x = new FolderRounds();
        for (int i = 0; i < 200; i++) {
            x.edit(1, 2, i % 41, i);
        }
        CHECKS.known(x, 1, 1, 2, 0, 200, 0, 0);
        CHECKS.unsupported("the 201st edit", () -> x.edit(1, 2, 1, 1));
        CHECKS.illegalArgument("the 201st edit, too long", () -> x.edit(1, 2, 41, 1));
        CHECKS.unsupported("erase behind 200 edits", () -> x.erase(1, 2));
        CHECKS.sibling(x, 1, 2, 0, 199 % 41, 0, 200, 0, 0);
        CHECKS.due("marks", x.marks(1), 0);
        x.edit(1, 3, 1, 1);
        CHECKS.known(x, 1, 1, 3, 0, 1, 0, 0);
        x.visit(0, 1, 1);
        x.visit(0, 0, 0);
        x.edit(0, 2, 5, 5);
        CHECKS.sibling(x, 0, 2, 0, 5, 1, 200, 0, 0);
    }

    private static void promise3EraseMakesMark() {
        FolderRounds x = new FolderRounds();
        x.erase(0, 6);
        CHECKS.due("marks of what was not there", x.marks(0), 1);
        CHECKS.known(x, 0, 0, 6, 1, 0, 0, 0);
        x.erase(0, 6);
        CHECKS.due("marks, erased twice", x.marks(0), 1);
        CHECKS.known(x, 0, 0, 6, 2, 0, 0, 0);
        x.edit(0, 6, 30, 1);
        CHECKS.due("marks, edited", x.marks(0), 0);
        CHECKS.sibling(x, 0, 6, 0, 30, 3, 0, 0, 0);
        x.erase(0, 6);
        CHECKS.due("siblings, erased", x.siblings(0, 6), 0);
        CHECKS.due("bytes, erased", x.bytes(0), 0);
        CHECKS.noSuchElement("erase(4, 0)", () -> x.erase(4, 0));
        CHECKS.noSuchElement("erase(-1, 0)", () -> x.erase(-1, 0));
        CHECKS.noSuchElement("erase(0, 10)", () -> x.erase(0, 10));
        CHECKS.noSuchElement("erase(0, -1)", () -> x.erase(0, -1));
        CHECKS.due("marks", x.marks(0), 1);
        CHECKS.noSuchElement("counter of a mark", () -> x.counter(0, 6, 0, 0));
        CHECKS.noSuchElement("byteOf of a mark", () -> x.byteOf(0, 6, 0, -1));
    }

    private static void promise3EraseAtMost200() {
        FolderRounds x = new FolderRounds();
        for (int i = 0; i < 200; i++) {
            x.erase(3, 0);
        }
        CHECKS.unsupported("the 201st erase", () -> x.erase(3, 0));
        CHECKS.unsupported("edit behind 200 erases", () -> x.edit(3, 0, 0, 0));
        CHECKS.due("marks", x.marks(3), 1);
        CHECKS.known(x, 3, 3, 0, 0, 0, 0, 200);
    }

    /** Four versions of one document, none of which covers another one, at one station. */
    private static FolderRounds fourSideBySide() {
        FolderRounds x = new FolderRounds();
        for (int s = 0; s < 4; s++) {
            x.edit(s, 5, 10 + s, 100 * s % 256);
        }
        for (int s = 0; s < 3; s++) {
            x.visit(0, s, 8);
            x.visit(0, 3, 0);
        }
        return x;
    }

    private static void promise4To6SiblingsInOrder() {
        FolderRounds x = fourSideBySide();
        CHECKS.due("siblings", x.siblings(3, 5), 4);
        CHECKS.sibling(x, 3, 5, 0, 13, 0, 0, 0, 1);
        CHECKS.sibling(x, 3, 5, 1, 12, 0, 0, 1, 0);
        CHECKS.sibling(x, 3, 5, 2, 11, 0, 1, 0, 0);
        CHECKS.sibling(x, 3, 5, 3, 10, 1, 0, 0, 0);
        CHECKS.noSuchElement("counter(.., 4, 0)", () -> x.counter(3, 5, 4, 0));
        CHECKS.noSuchElement("counter(.., -1, 0)", () -> x.counter(3, 5, -1, 0));
        CHECKS.noSuchElement("counter(.., 4, 4)", () -> x.counter(3, 5, 4, 4));
        CHECKS.noSuchElement("counter(4, ..)", () -> x.counter(4, 5, 0, 0));
        CHECKS.noSuchElement("counter(-1, ..)", () -> x.counter(-1, 5, 0, 0));
        CHECKS.noSuchElement("counter(3, 10, ..)", () -> x.counter(3, 10, 0, 0));
        CHECKS.noSuchElement("counter(3, -1, ..)", () -> x.counter(3, -1, 0, 0));
        CHECKS.outOfBounds("counter(.., 4)", () -> x.counter(3, 5, 0, 4));
        CHECKS.outOfBounds("counter(.., -1)", () -> x.counter(3, 5, 0, -1));
        CHECKS.noSuchElement("siblings(4, 0)", () -> x.siblings(4, 0));
        CHECKS.noSuchElement("siblings(-1, 0)", () -> x.siblings(-1, 0));
        CHECKS.noSuchElement("siblings(0, 10)", () -> x.siblings(0, 10));
        CHECKS.noSuchElement("siblings(0, -1)", () -> x.siblings(0, -1));
        CHECKS.due("bytes of four", x.bytes(3), 46);
        x.edit(3, 5, 1, 1);
        CHECKS.due("siblings, edited", x.siblings(3, 5), 1);
        CHECKS.sibling(x, 3, 5, 0, 1, 1, 1, 1, 2);
        CHECKS.due("bytes, edited", x.bytes(3), 1);

        FolderRounds y = new FolderRounds();
        y.erase(0, 1);
        y.edit(1, 1, 6, 0);
        y.visit(0, 0, 2);
        y.visit(0, 1, 0);
        CHECKS.due("siblings beside a mark", y.siblings(1, 1), 1);
        CHECKS.due("marks beside a version", y.marks(1), 1);
        CHECKS.sibling(y, 1, 1, 0, 6, 0, 1, 0, 0);
    }

    private static void promise6Bytes() {
        FolderRounds x = new FolderRounds();
        x.edit(0, 0, 40, 230);
        for (int i = 0; i < 40; i++) {
            CHECKS.due("byteOf " + i, x.byteOf(0, 0, 0, i), (230 + i) % 256);
        }
        CHECKS.due("length", x.byteOf(0, 0, 0, -1), 40);
        CHECKS.outOfBounds("byteOf(.., 40)", () -> x.byteOf(0, 0, 0, 40));
        CHECKS.outOfBounds("byteOf(.., -2)", () -> x.byteOf(0, 0, 0, -2));
        CHECKS.outOfBounds("byteOf(.., least)", () -> x.byteOf(0, 0, 0, Integer.MIN_VALUE));
        CHECKS.noSuchElement("byteOf(.., 1, 50)", () -> x.byteOf(0, 0, 1, 50));
        CHECKS.noSuchElement("byteOf(.., -1, 0)", () -> x.byteOf(0, 0, -1, 0));
        CHECKS.noSuchElement("byteOf(4, ..)", () -> x.byteOf(4, 0, 0, 0));
        CHECKS.noSuchElement("byteOf(-1, ..)", () -> x.byteOf(-1, 0, 0, 0));
        CHECKS.noSuchElement("byteOf(0, 10, ..)", () -> x.byteOf(0, 10, 0, 0));
        CHECKS.noSuchElement("byteOf(0, -1, ..)", () -> x.byteOf(0, -1, 0, 0));
        x.edit(0, 1, 0, 77);
        CHECKS.due("length 0", x.byteOf(0, 1, 0, -1), 0);
        CHECKS.outOfBounds("byteOf of no bytes", () -> x.byteOf(0, 1, 0, 0));
    }

    private static void promise11KnownOfItself() {
        FolderRounds x = new FolderRounds();
        x.edit(0, 2, 1, 1);
        x.edit(1, 2, 1, 1);
        x.visit(0, 0, 2);
        x.visit(0, 1, 0);
        CHECKS.known(x, 1, 1, 2, 1, 1, 0, 0);
        CHECKS.known(x, 1, 0, 2, 1, 0, 0, 0);
        CHECKS.known(x, 0, 0, 2, 1, 0, 0, 0);
        CHECKS.known(x, 0, 1, 2, 0, 0, 0, 0);
        CHECKS.noSuchElement("known(4, ..)", () -> x.known(4, 0, 0, 4));
        CHECKS.noSuchElement("known(-1, ..)", () -> x.known(-1, 0, 0, 0));
        CHECKS.noSuchElement("known(0, 4, ..)", () -> x.known(0, 4, 0, 0));
        CHECKS.noSuchElement("known(0, -1, ..)", () -> x.known(0, -1, 0, 0));
        CHECKS.noSuchElement("known(0, 0, 10, ..)", () -> x.known(0, 0, 10, -1));
        CHECKS.noSuchElement("known(0, 0, -1, ..)", () -> x.known(0, 0, -1, 0));
        CHECKS.outOfBounds("known(.., 4)", () -> x.known(0, 0, 0, 4));
        CHECKS.outOfBounds("known(.., -1)", () -> x.known(0, 0, 0, -1));
    }

    private static void promise12Marks() {
        FolderRounds x = new FolderRounds();
        for (int d = 0; d < 10; d++) {
            x.erase(2, d);
        }
        CHECKS.due("marks", x.marks(2), 10);
        x.edit(2, 0, 0, 0);
        CHECKS.due("marks, no bytes are no mark", x.marks(2), 9);
        CHECKS.due("marks of another station", x.marks(0), 0);
        CHECKS.noSuchElement("marks(4)", () -> x.marks(4));
        CHECKS.noSuchElement("marks(-1)", () -> x.marks(-1));
    }

    private static void promise13Bytes() {
        FolderRounds x = new FolderRounds();
        x.edit(0, 0, 17, 0);
        x.edit(0, 9, 23, 0);
        x.erase(0, 4);
        CHECKS.due("bytes", x.bytes(0), 40);
        x.erase(0, 0);
        CHECKS.due("bytes, erased", x.bytes(0), 23);
        CHECKS.due("bytes of another station", x.bytes(1), 0);
        CHECKS.noSuchElement("bytes(4)", () -> x.bytes(4));
        CHECKS.noSuchElement("bytes(-1)", () -> x.bytes(-1));
    }

    private static void promise14Same() {
        FolderRounds x = new FolderRounds();
        CHECKS.due("same, none at both", x.same(0, 1), true);
        x.erase(0, 0);
        CHECKS.due("same, marks aside", x.same(0, 1), true);
        x.edit(0, 1, 3, 3);
        CHECKS.due("same, one has more", x.same(0, 1), false);
        CHECKS.due("same, the other way", x.same(1, 0), false);
        CHECKS.due("same as itself", x.same(0, 0), true);
        x.edit(1, 1, 3, 3);
        CHECKS.due("same bytes, other versions", x.same(0, 1), false);
        x.visit(0, 0, 2);
        x.visit(0, 1, 1);
        CHECKS.due("same, one has both", x.same(0, 1), false);
        x.visit(0, 0, 2);
        CHECKS.due("same, both have both", x.same(0, 1), true);
        x.edit(2, 2, 3, 3);
        x.edit(3, 3, 3, 3);
        CHECKS.due("same, other documents", x.same(2, 3), false);
        x.visit(1, 2, 8);
        x.erase(3, 3);
        x.visit(1, 3, 0);
        CHECKS.due("same, a single version", x.same(2, 3), true);
        CHECKS.noSuchElement("same(0, 4)", () -> x.same(0, 4));
        CHECKS.noSuchElement("same(4, 0)", () -> x.same(4, 0));
        CHECKS.noSuchElement("same(0, -1)", () -> x.same(0, -1));
        CHECKS.noSuchElement("same(-1, -1)", () -> x.same(-1, -1));
    }
}
