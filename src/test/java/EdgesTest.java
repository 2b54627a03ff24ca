/** The sentences of promises 1 to 17 that name an edge, each with a test of its own. */
public final class EdgesTest {
    private static final Checks CHECKS = new Checks();

    public static void main(String[] args) {
        newObjectIsEmpty();
        objectsAreApart();
        editLength();
        editFill();
        editWhenTheCounterIs200();
        editOver300Bytes();
        eraseOfNothingOrAMark();
        eraseOfAllThatStands();
        eraseWhenTheCounterIs200();
        siblingsOfNoneAndNoMarks();
        counterOfTheKth();
        counterJ();
        byteOfItsEnds();
        visitDestinations();
        visitForNobody();
        visitAnswersHowManyWereLoaded();
        cutAnswers0IfItWasOverBefore();
        cutBelow0();
        loseOfEmptyAndFull();
        loseMakesTheTableZeros();
        copyBecomesTheOther();
        copyOfEachVectorOfTheTable();
        copyOfAnEmptyOne();
        copyOntoItself();
        knownOfAnotherAndOfItself();
        marksOfNoneAndMany();
        bytesOfNoneAndFull();
        sameOfNone();
        sameMarksAside();
        sameOfAllDocuments();
        sameBytesAreNotTheSameVersion();
        olderIsNotTheSameVersion();
        roomOfEmptyAndFull();
        itemOfFirstAndLast();
        leftOutInAll();
        CHECKS.finish();
    }

    /** So many bytes in documents 3 to 9. */
    private static void fill(FolderRounds x, int station, int bytes) {
        for (int d = 3; d < 10; d++) {
            x.edit(station, d, Math.min(40, Math.max(0, bytes - 40 * (d - 3))), 0);
        }
    }

    private static void newObjectIsEmpty() {
        CHECKS.sentence("Promise 1", "No versions; all cartridges are empty.");
        FolderRounds x = new FolderRounds();
        for (int s = 0; s < 4; s++) {
            for (int d = 0; d < 10; d++) {
                CHECKS.due("siblings(" + s + ", " + d + ")", x.siblings(s, d), 0);
            }
            CHECKS.due("marks", x.marks(s), 0);
            CHECKS.due("bytes", x.bytes(s), 0);
        }
        for (int c = 0; c < 3; c++) {
            CHECKS.rowLength(x, c, 0);
            CHECKS.due("room", x.room(c), 100);
            CHECKS.due("loaded at a new station", x.visit(c, c, 15), 0);
        }
        CHECKS.due("leftOut", x.leftOut(), 0);
    }

    private static void objectsAreApart() {
        FolderRounds x = new FolderRounds();
        FolderRounds y = new FolderRounds();
        x.edit(0, 0, 1, 1);
        x.visit(0, 0, 2);
        CHECKS.due("siblings of another object", y.siblings(0, 0), 0);
        CHECKS.rowLength(y, 0, 0);
        CHECKS.known(new FolderRounds(), 0, 0, 0, 0, 0, 0, 0);
    }

    private static void editLength() {
        CHECKS.sentence("Promise 2", "IllegalArgumentException when length is not 0 .. 40");
        FolderRounds x = new FolderRounds();
        x.edit(0, 0, 0, 7);
        CHECKS.due("length 0", x.byteOf(0, 0, 0, -1), 0);
        x.edit(0, 0, 40, 7);
        CHECKS.due("length 40", x.byteOf(0, 0, 0, -1), 40);
        CHECKS.illegalArgument("length -1", () -> x.edit(0, 0, -1, 7));
        CHECKS.illegalArgument("length 41", () -> x.edit(0, 0, 41, 7));
        CHECKS.known(x, 0, 0, 0, 2, 0, 0, 0);
    }

    private static void editFill() {
        CHECKS.sentence("Promise 2", "or fill not 0 .. 255");
        FolderRounds x = new FolderRounds();
        x.edit(0, 0, 1, 0);
        CHECKS.due("fill 0", x.byteOf(0, 0, 0, 0), 0);
        x.edit(0, 0, 1, 255);
        CHECKS.due("fill 255", x.byteOf(0, 0, 0, 0), 255);
        CHECKS.illegalArgument("fill -1", () -> x.edit(0, 0, 1, -1));
        CHECKS.illegalArgument("fill 256", () -> x.edit(0, 0, 1, 256));
        CHECKS.known(x, 0, 0, 0, 2, 0, 0, 0);
    }

    private static void editWhenTheCounterIs200() {
        CHECKS.sentence("Promise 2", "UnsupportedOperationException when the counter is 200");
        FolderRounds x = new FolderRounds();
        for (int i = 0; i < 199; i++) {
            x.edit(3, 9, 1, 1);
        }
        x.edit(3, 9, 2, 2);
        CHECKS.sibling(x, 3, 9, 0, 2, 0, 0, 0, 200);
        CHECKS.unsupported("edit", () -> x.edit(3, 9, 1, 1));
        CHECKS.sibling(x, 3, 9, 0, 2, 0, 0, 0, 200);
        // It is the station's own counter of that document alone.
        x.edit(3, 8, 1, 1);
        x.visit(0, 3, 1);
        x.visit(0, 0, 0);
        x.edit(0, 9, 3, 3);
        CHECKS.sibling(x, 0, 9, 0, 3, 1, 0, 0, 200);
    }

    private static void editOver300Bytes() {
        CHECKS.sentence("Promise 2", "or there would be more than 300 bytes (all that it replaces left out)");
        FolderRounds x = new FolderRounds();
        fill(x, 0, 260);
        CHECKS.due("bytes", x.bytes(0), 260);
        x.edit(0, 0, 40, 0);
        CHECKS.due("bytes, at 300", x.bytes(0), 300);
        CHECKS.unsupported("one byte more", () -> x.edit(0, 1, 1, 0));
        x.edit(0, 1, 0, 0);
        x.edit(0, 0, 40, 1);
        CHECKS.due("bytes, 40 replaced by 40", x.bytes(0), 300);
        x.edit(0, 0, 39, 1);
        x.edit(0, 1, 1, 0);
        CHECKS.due("bytes, 300 again", x.bytes(0), 300);

        // All versions that stood side by side are replaced by the one.
        FolderRounds y = new FolderRounds();
        fill(y, 0, 260);
        y.edit(0, 0, 20, 0);
        y.edit(1, 0, 20, 0);
        y.visit(0, 1, 1);
        y.visit(0, 0, 0);
        CHECKS.due("siblings", y.siblings(0, 0), 2);
        CHECKS.unsupported("one byte more", () -> y.edit(0, 1, 1, 0));
        y.edit(0, 0, 40, 0);
        CHECKS.due("bytes, 20 and 20 replaced by 40", y.bytes(0), 300);
        CHECKS.due("leftOut: none of the refused ones", y.leftOut(), 0);
    }

    private static void eraseOfNothingOrAMark() {
        CHECKS.sentence("Promise 3", "A mark is made at a station (also of a document that has nothing there, or a mark).");
        FolderRounds x = new FolderRounds();
        x.erase(1, 0);
        CHECKS.due("marks, nothing was there", x.marks(1), 1);
        CHECKS.known(x, 1, 1, 0, 0, 1, 0, 0);
        x.erase(1, 0);
        CHECKS.due("marks, a mark was there", x.marks(1), 1);
        CHECKS.known(x, 1, 1, 0, 0, 2, 0, 0);
        x.visit(0, 1, 1);
        CHECKS.rowLength(x, 0, 1);
        CHECKS.item(x, 0, 0, 0, -1, 0, 2, 0, 0);
    }

    private static void eraseOfAllThatStands() {
        FolderRounds x = new FolderRounds();
        fill(x, 1, 280);
        x.edit(1, 0, 20, 0);
        x.edit(0, 0, 0, 0);
        x.visit(0, 0, 2);
        x.visit(0, 1, 0);
        CHECKS.due("siblings before", x.siblings(1, 0), 2);
        x.erase(1, 1);
        CHECKS.due("marks at 300 bytes", x.marks(1), 1);
        x.erase(1, 0);
        CHECKS.due("siblings", x.siblings(1, 0), 0);
        CHECKS.due("marks", x.marks(1), 2);
        CHECKS.due("bytes", x.bytes(1), 280);
        CHECKS.known(x, 1, 1, 0, 1, 2, 0, 0);
    }

    private static void eraseWhenTheCounterIs200() {
        CHECKS.sentence("Promise 3", "UnsupportedOperationException when the counter is 200.");
        FolderRounds x = new FolderRounds();
        for (int i = 0; i < 199; i++) {
            x.edit(0, 0, 1, 1);
        }
        x.erase(0, 0);
        CHECKS.known(x, 0, 0, 0, 200, 0, 0, 0);
        CHECKS.unsupported("erase", () -> x.erase(0, 0));
        CHECKS.unsupported("edit", () -> x.edit(0, 0, 0, 0));
        CHECKS.known(x, 0, 0, 0, 200, 0, 0, 0);
        x.erase(0, 1);
        CHECKS.due("marks", x.marks(0), 2);
    }

    private static void siblingsOfNoneAndNoMarks() {
        CHECKS.sentence("Promise 4", "How many versions with bytes (also none of them; no marks) stand.");
        FolderRounds x = new FolderRounds();
        CHECKS.due("nothing stands", x.siblings(0, 0), 0);
        x.edit(0, 0, 0, 0);
        CHECKS.due("none of the bytes", x.siblings(0, 0), 1);
        x.edit(1, 0, 5, 0);
        x.erase(2, 0);
        x.visit(0, 1, 1);
        x.visit(0, 0, 0);
        CHECKS.due("two", x.siblings(0, 0), 2);
        x.visit(0, 2, 1);
        x.visit(0, 0, 0);
        CHECKS.due("two beside a mark", x.siblings(0, 0), 2);
        CHECKS.due("marks", x.marks(0), 1);
        x.erase(0, 0);
        CHECKS.due("erased", x.siblings(0, 0), 0);
    }

    /** Station 0 has of document 7 a mark of station 1 between versions of 2 and of itself. */
    private static FolderRounds markBetween() {
        FolderRounds x = new FolderRounds();
        x.edit(0, 7, 10, 0);
        x.erase(1, 7);
        x.edit(2, 7, 0, 0);
        for (int s = 1; s < 3; s++) {
            x.visit(0, s, 1);
            x.visit(0, 0, 0);
        }
        return x;
    }

    private static void counterOfTheKth() {
        CHECKS.sentence("Promise 5", "Counter j of the k-th of these, in order.");
        FolderRounds x = markBetween();
        CHECKS.due("marks", x.marks(0), 1);
        CHECKS.sibling(x, 0, 7, 0, 0, 0, 0, 1, 0);
        CHECKS.sibling(x, 0, 7, 1, 10, 1, 0, 0, 0);
        CHECKS.noSuchElement("k = -1", () -> x.counter(0, 7, -1, 0));
        CHECKS.noSuchElement("k = 2", () -> x.counter(0, 7, 2, 0));
        CHECKS.noSuchElement("k = 0 where a mark alone stands", () -> x.counter(1, 7, 0, 0));
        CHECKS.noSuchElement("k = 0 where nothing stands", () -> x.counter(3, 7, 0, 0));
    }

    private static void counterJ() {
        CHECKS.sentence("Promise 5", "IndexOutOfBoundsException when j is not 0 .. 3.");
        FolderRounds x = new FolderRounds();
        x.edit(0, 0, 1, 1);
        x.edit(0, 0, 1, 1);
        x.visit(0, 0, 8);
        x.visit(0, 3, 0);
        x.edit(3, 0, 1, 1);
        CHECKS.due("j = 0", x.counter(3, 0, 0, 0), 2);
        CHECKS.due("j = 3", x.counter(3, 0, 0, 3), 1);
        CHECKS.outOfBounds("j = -1", () -> x.counter(3, 0, 0, -1));
        CHECKS.outOfBounds("j = 4", () -> x.counter(3, 0, 0, 4));
    }

    private static void byteOfItsEnds() {
        CHECKS.sentence("Promise 6", "Byte i of the k-th of these; its length for i = -1.");
        FolderRounds x = markBetween();
        CHECKS.due("length", x.byteOf(0, 7, 1, -1), 10);
        CHECKS.due("the first", x.byteOf(0, 7, 1, 0), 0);
        CHECKS.due("the last", x.byteOf(0, 7, 1, 9), 9);
        CHECKS.outOfBounds("behind the last", () -> x.byteOf(0, 7, 1, 10));
        CHECKS.outOfBounds("i = -2", () -> x.byteOf(0, 7, 1, -2));
        CHECKS.due("length of none", x.byteOf(0, 7, 0, -1), 0);
        CHECKS.outOfBounds("the first of none", () -> x.byteOf(0, 7, 0, 0));
        CHECKS.noSuchElement("k = 2", () -> x.byteOf(0, 7, 2, -1));
        CHECKS.noSuchElement("k = -1", () -> x.byteOf(0, 7, -1, -1));
        CHECKS.noSuchElement("k = 0 where a mark alone stands", () -> x.byteOf(1, 7, 0, -1));
    }

    private static void visitDestinations() {
        CHECKS.sentence("Promise 7", "destinations are bits of stations (others, and the station's own, are not looked at");
        for (int s = 0; s < 4; s++) {
            FolderRounds x = new FolderRounds();
            x.edit(s, 0, 1, 1);
            for (int other = 0; other < 4; other++) {
                CHECKS.due("loaded at " + s + " for " + other, x.visit(0, s, 1 << other), other == s ? 0 : 1);
            }
            for (int bit = 4; bit < 32; bit++) {
                CHECKS.due("loaded at " + s + " for bit " + bit, x.visit(0, s, 1 << bit), 0);
            }
            CHECKS.due("loaded for all other bits", x.visit(0, s, ~15), 0);
            CHECKS.due("loaded for all other bits and its own", x.visit(0, s, ~15 | 1 << s), 0);
            CHECKS.due("loaded for all bits", x.visit(0, s, -1), 1);
            CHECKS.due("loaded for the least number", x.visit(0, s, Integer.MIN_VALUE), 0);
            CHECKS.due("loaded for the greatest number", x.visit(0, s, Integer.MAX_VALUE), 1);
        }
    }

    private static void visitForNobody() {
        CHECKS.sentence("Promise 7", "0: nothing is loaded");
        FolderRounds x = new FolderRounds();
        x.edit(0, 0, 1, 1);
        x.visit(0, 0, 2);
        x.edit(1, 1, 2, 2);
        CHECKS.due("loaded", x.visit(0, 1, 0), 0);
        CHECKS.rowLength(x, 0, 0);
        CHECKS.due("siblings: it was unloaded all the same", x.siblings(1, 0), 1);
        x.visit(0, 2, 0);
        CHECKS.known(x, 2, 1, 1, 0, 1, 0, 0);
    }

    private static void visitAnswersHowManyWereLoaded() {
        CHECKS.sentence("Promise 7", "how many versions were loaded");
        for (int count = 0; count <= 10; count++) {
            FolderRounds x = new FolderRounds();
            for (int d = 0; d < count; d++) {
                x.erase(0, d);
            }
            CHECKS.due("loaded", x.visit(0, 0, 2), count);
            CHECKS.rowLength(x, 0, count);
            CHECKS.due("loaded at 1, where as many went", x.visit(0, 1, 0), 0);
        }
    }

    private static void cutAnswers0IfItWasOverBefore() {
        CHECKS.sentence("Promise 8", "how many were loaded (0, if it was over before)");
        FolderRounds x = new FolderRounds();
        x.edit(0, 0, 1, 1);
        x.edit(0, 1, 1, 1);
        CHECKS.due("cut after 1 of 2", x.cut(0, 0, 2, 1), 1);
        CHECKS.due("cut after 0, one on the cartridge", x.cut(0, 0, 2, 0), 0);
        CHECKS.rowLength(x, 0, 1);
        CHECKS.due("cut after 1, none left for loading", x.cut(0, 0, 2, 1), 0);
        CHECKS.rowLength(x, 0, 0);
        CHECKS.due("cut after 2", x.cut(0, 0, 2, 2), 2);
        CHECKS.due("cut after 3, two went", x.cut(0, 0, 2, 3), 1);
        CHECKS.due("cut after 3, one went", x.cut(0, 0, 2, 3), 2);
    }

    private static void cutBelow0() {
        CHECKS.sentence("Promise 8", "IllegalArgumentException when n is below 0.");
        FolderRounds x = new FolderRounds();
        x.edit(0, 0, 1, 1);
        CHECKS.illegalArgument("n = -1", () -> x.cut(0, 0, 2, -1));
        CHECKS.illegalArgument("the least n", () -> x.cut(0, 0, 2, Integer.MIN_VALUE));
        x.visit(0, 1, 0);
        CHECKS.known(x, 1, 0, 0, 0, 0, 0, 0);
        CHECKS.due("n = 0", x.cut(0, 0, 2, 0), 0);
    }

    private static void loseOfEmptyAndFull() {
        CHECKS.sentence("Promise 9", "A cartridge is empty");
        FolderRounds x = new FolderRounds();
        CHECKS.due("lose of a new one", x.lose(2), 0);
        x.edit(0, 0, 40, 0);
        x.edit(0, 1, 36, 0);
        x.edit(0, 2, 0, 0);
        x.visit(2, 0, 2);
        x.visit(1, 0, 2);
        CHECKS.due("room", x.room(2), 0);
        CHECKS.due("lose of a full one", x.lose(2), 3);
        CHECKS.due("room", x.room(2), 100);
        CHECKS.rowLength(x, 2, 0);
        CHECKS.due("lose once more", x.lose(2), 0);
        CHECKS.rowLength(x, 1, 3);
        CHECKS.due("siblings: what was loaded stands", x.siblings(0, 0), 1);
    }

    private static void loseMakesTheTableZeros() {
        CHECKS.sentence("Promise 9", "its table has zeros: how many versions it had");
        for (int s = 0; s < 4; s++) {
            FolderRounds x = new FolderRounds();
            for (int d = 0; d < 10; d++) {
                x.edit(s, d, 1, 1);
            }
            CHECKS.due("loaded for nobody", x.visit(0, s, 0), 0);
            CHECKS.due("lose of a table alone", x.lose(0), 0);
            int other = (s + 1) % 4;
            x.visit(0, other, 0);
            for (int d = 0; d < 10; d++) {
                CHECKS.known(x, other, s, d, 0, 0, 0, 0);
            }
        }
    }

    private static void copyBecomesTheOther() {
        CHECKS.sentence("Promise 10", "A cartridge becomes what another one is (row and table; what it had is gone");
        FolderRounds x = new FolderRounds();
        x.edit(0, 0, 40, 0);
        x.edit(0, 1, 36, 0);
        x.erase(0, 2);
        x.visit(0, 0, 2);
        x.edit(2, 5, 9, 9);
        x.visit(1, 2, 1);
        x.copy(0, 1);
        CHECKS.due("room", x.room(1), 0);
        CHECKS.rowLength(x, 1, 3);
        CHECKS.item(x, 1, 0, 0, 40, 1, 0, 0, 0);
        CHECKS.item(x, 1, 1, 1, 36, 1, 0, 0, 0);
        CHECKS.item(x, 1, 2, 2, -1, 1, 0, 0, 0);
        CHECKS.rowLength(x, 0, 3);
        x.visit(1, 3, 0);
        CHECKS.known(x, 3, 0, 0, 1, 0, 0, 0);
        CHECKS.known(x, 3, 2, 5, 0, 0, 0, 0);
        CHECKS.due("siblings of what it had", x.siblings(3, 5), 0);
        CHECKS.rowLength(x, 0, 3);
    }

    private static void copyOfEachVectorOfTheTable() {
        for (int s = 0; s < 4; s++) {
            FolderRounds x = new FolderRounds();
            for (int d = 0; d < 10; d++) {
                x.edit(s, d, 1, 1);
            }
            x.visit(0, s, 0);
            x.copy(0, 2);
            int other = (s + 1) % 4;
            x.visit(2, other, 0);
            for (int d = 0; d < 10; d++) {
                CHECKS.due("known of " + s, x.known(other, s, d, s), 1);
            }
        }
    }

    private static void copyOfAnEmptyOne() {
        FolderRounds x = new FolderRounds();
        x.edit(0, 0, 40, 0);
        x.visit(1, 0, 2);
        x.copy(2, 1);
        CHECKS.rowLength(x, 1, 0);
        CHECKS.due("room", x.room(1), 100);
        x.visit(1, 3, 0);
        CHECKS.known(x, 3, 0, 0, 0, 0, 0, 0);
    }

    private static void copyOntoItself() {
        CHECKS.sentence("Promise 10", "from may be to");
        FolderRounds x = new FolderRounds();
        for (int c = 0; c < 3; c++) {
            x.edit(c, c, c, 0);
            x.visit(c, c, 8);
            x.copy(c, c);
            CHECKS.rowLength(x, c, 1);
            x.visit(c, 3, 0);
            CHECKS.due("siblings", x.siblings(3, c), 1);
            CHECKS.due("known", x.known(3, c, c, c), 1);
        }
    }

    private static void knownOfAnotherAndOfItself() {
        CHECKS.sentence("Promise 11", "Counter j of what a station knows that another one (or, of itself, its own) had.");
        FolderRounds x = new FolderRounds();
        x.edit(3, 9, 1, 1);
        x.edit(0, 0, 1, 1);
        CHECKS.known(x, 3, 3, 9, 0, 0, 0, 1);
        CHECKS.known(x, 0, 0, 0, 1, 0, 0, 0);
        CHECKS.known(x, 0, 3, 9, 0, 0, 0, 0);
        x.visit(0, 3, 1);
        CHECKS.known(x, 3, 0, 9, 0, 0, 0, 0);
        x.visit(0, 0, 8);
        CHECKS.known(x, 0, 3, 9, 0, 0, 0, 1);
        CHECKS.known(x, 0, 0, 9, 0, 0, 0, 1);
        CHECKS.known(x, 3, 0, 9, 0, 0, 0, 0);
        CHECKS.sentence("Promise 11", "IndexOutOfBoundsException when j is not 0 .. 3.");
        CHECKS.outOfBounds("j = -1", () -> x.known(0, 3, 9, -1));
        CHECKS.outOfBounds("j = 4", () -> x.known(0, 3, 9, 4));
    }

    private static void marksOfNoneAndMany() {
        CHECKS.sentence("Promise 12", "How many marks stand at a station.");
        FolderRounds x = new FolderRounds();
        CHECKS.due("none", x.marks(0), 0);
        for (int d = 0; d < 10; d++) {
            x.erase(0, d);
            CHECKS.due("marks", x.marks(0), d + 1);
            x.erase(1, d);
        }
        // Marks of one document may stand side by side, as versions do.
        CHECKS.due("loaded", x.visit(0, 1, 1), 10);
        x.visit(0, 0, 0);
        CHECKS.due("marks, two of each document", x.marks(0), 20);
        x.edit(0, 0, 0, 0);
        CHECKS.due("marks, two replaced", x.marks(0), 18);
    }

    private static void bytesOfNoneAndFull() {
        CHECKS.sentence("Promise 13", "How many bytes all that stands has.");
        FolderRounds x = new FolderRounds();
        CHECKS.due("nothing stands", x.bytes(2), 0);
        x.edit(2, 0, 0, 0);
        x.erase(2, 1);
        CHECKS.due("a version of none and a mark", x.bytes(2), 0);
        fill(x, 2, 280);
        x.edit(2, 2, 20, 0);
        CHECKS.due("full", x.bytes(2), 300);
        for (int d = 0; d < 10; d++) {
            x.erase(2, d);
        }
        CHECKS.due("all erased", x.bytes(2), 0);
        x.edit(0, 0, 3, 0);
        x.edit(1, 0, 4, 0);
        x.visit(0, 0, 2);
        x.visit(0, 1, 0);
        CHECKS.due("side by side", x.bytes(1), 7);
    }

    private static void sameOfNone() {
        CHECKS.sentence("Promise 14", "none at both: true");
        FolderRounds x = new FolderRounds();
        for (int a = 0; a < 4; a++) {
            for (int b = 0; b < 4; b++) {
                CHECKS.due("same(" + a + ", " + b + ")", x.same(a, b), true);
            }
        }
        x.edit(0, 0, 0, 0);
        CHECKS.due("one of no bytes, none", x.same(0, 1), false);
        CHECKS.due("none, one of no bytes", x.same(1, 0), false);
        x.erase(0, 0);
        CHECKS.due("none of them, erased", x.same(0, 1), true);
    }

    private static void sameMarksAside() {
        CHECKS.sentence("Promise 14", "marks aside");
        FolderRounds x = new FolderRounds();
        x.erase(0, 0);
        CHECKS.due("a mark and none", x.same(0, 1), true);
        x.erase(1, 5);
        CHECKS.due("two marks", x.same(0, 1), true);
        x.edit(0, 3, 5, 5);
        x.visit(0, 0, 2);
        x.erase(1, 3);
        x.visit(0, 1, 0);
        CHECKS.due("marks: one beside the version", x.marks(1), 3);
        CHECKS.due("the same version, a mark beside it", x.same(0, 1), true);
    }

    private static void sameOfAllDocuments() {
        CHECKS.sentence("Promise 14", "the same versions with bytes, of all documents, stand");
        for (int d = 0; d < 10; d++) {
            FolderRounds x = new FolderRounds();
            x.edit(0, 4, 1, 1);
            x.visit(0, 0, 2);
            x.visit(0, 1, 0);
            CHECKS.due("same before", x.same(0, 1), true);
            x.edit(0, d, 1, 1);
            CHECKS.due("same, one more of document " + d, x.same(0, 1), false);
            CHECKS.due("same, the other way round", x.same(1, 0), false);
            x.lose(0);
            x.visit(0, 0, 2);
            x.visit(0, 1, 0);
            CHECKS.due("same, brought", x.same(0, 1), true);
        }
    }

    private static void sameBytesAreNotTheSameVersion() {
        FolderRounds x = new FolderRounds();
        x.edit(0, 0, 5, 5);
        x.edit(1, 0, 5, 5);
        CHECKS.due("equal bytes", x.same(0, 1), false);
        x.visit(0, 0, 2);
        x.visit(1, 1, 1);
        x.visit(0, 1, 0);
        CHECKS.due("one has both", x.same(0, 1), false);
        CHECKS.due("one has both, the other way round", x.same(1, 0), false);
        x.visit(1, 0, 0);
        CHECKS.due("both have both, in whichever order they came", x.same(0, 1), true);
    }

    /** Two versions that differ in one counter alone, whichever it is. */
    private static void olderIsNotTheSameVersion() {
        for (int s = 0; s < 4; s++) {
            int other = (s + 1) % 4;
            FolderRounds x = new FolderRounds();
            x.edit(s, 0, 5, 5);
            x.visit(0, s, 1 << other);
            x.visit(0, other, 0);
            CHECKS.due("the same at " + s + " and " + other, x.same(s, other), true);
            x.edit(s, 0, 5, 5);
            CHECKS.due("an older one at " + other, x.same(s, other), false);
            CHECKS.due("a later one at " + s, x.same(other, s), false);
        }
    }

    private static void roomOfEmptyAndFull() {
        CHECKS.sentence("Promise 15", "How much room a cartridge has left.");
        FolderRounds x = new FolderRounds();
        CHECKS.due("empty", x.room(0), 100);
        x.edit(0, 0, 40, 0);
        x.edit(0, 1, 36, 0);
        x.erase(0, 2);
        x.visit(0, 0, 2);
        CHECKS.due("full", x.room(0), 0);
        int[] left = {0, 48, 92};
        for (int n = 0; n < 3; n++) {
            x.copy(0, 1);
            x.cut(1, 1, 0, n);
            CHECKS.due("after " + n + " went", x.room(1), left[n]);
        }
        x.visit(0, 1, 0);
        CHECKS.due("all went", x.room(0), 100);
    }

    private static void itemOfFirstAndLast() {
        CHECKS.sentence("Promise 16", "Of the k-th version on a cartridge: 0 its document, 1 its length (-1 of a mark), 2 .. 5 its counters.");
        FolderRounds x = new FolderRounds();
        for (int s = 0; s < 4; s++) {
            for (int i = 0; i <= s; i++) {
                x.edit(s, 9, 40, 0);
            }
            x.visit(0, s, 15);
            x.lose(0);
        }
        x.erase(0, 0);
        x.edit(0, 1, 0, 0);
        CHECKS.due("loaded", x.visit(0, 0, 2), 3);
        CHECKS.item(x, 0, 0, 0, -1, 1, 0, 0, 0);
        CHECKS.item(x, 0, 1, 1, 0, 1, 0, 0, 0);
        CHECKS.item(x, 0, 2, 9, 40, 1, 0, 0, 0);
        x.visit(1, 3, 1);
        CHECKS.item(x, 1, 0, 9, 40, 0, 0, 0, 4);
        CHECKS.sentence("Promise 16", "NoSuchElementException (the version, too); IndexOutOfBoundsException for another what.");
        CHECKS.noSuchElement("k = -1", () -> x.item(0, -1, 0));
        CHECKS.noSuchElement("k = 3", () -> x.item(0, 3, 0));
        CHECKS.noSuchElement("k = 0 of an empty one", () -> x.item(2, 0, 0));
        CHECKS.outOfBounds("what = -1", () -> x.item(0, 2, -1));
        CHECKS.outOfBounds("what = 6", () -> x.item(0, 2, 6));
    }

    private static void leftOutInAll() {
        CHECKS.sentence("Promise 17", "How many versions were left out in all.");
        FolderRounds x = new FolderRounds();
        CHECKS.due("none", x.leftOut(), 0);
        x.edit(0, 0, 30, 0);
        x.visit(0, 0, 6);
        for (int s = 1; s < 3; s++) {
            fill(x, s, 280);
            for (int i = 1; i < 3; i++) {
                x.copy(0, 1);
                x.visit(1, s, 0);
                CHECKS.due("left out at " + s, x.leftOut(), 2 * (s - 1) + i);
            }
        }
        CHECKS.unsupported("edit over 300 bytes", () -> x.edit(1, 0, 21, 0));
        CHECKS.due("a refused edit is none", x.leftOut(), 4);
        x.lose(0);
        CHECKS.due("lost ones are none", x.leftOut(), 4);
        x.erase(1, 3);
        x.visit(0, 0, 2);
        x.visit(0, 1, 0);
        CHECKS.due("one that came to stand is none", x.leftOut(), 4);
        CHECKS.due("siblings", x.siblings(1, 0), 1);
    }
}
