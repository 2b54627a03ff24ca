/** The sentences of the terms on limits, vectors, order, what comes to stand, and editing. */
public final class TermsTest {
    private static final Checks CHECKS = new Checks();

    public static void main(String[] args) {
        stationsAre0To3();
        documentsAre0To9();
        cartridgesAre0To2();
        countersReach200();
        oneCounterForEachStation();
        coversIfNoneIsLess();
        joinTakesTheGreaterOfEach();
        zeroTo40Bytes();
        bytesWrapAround();
        aMarkHasNone();
        orderByFirstCounter();
        orderThenBySecond();
        orderAndSoOn();
        noneCoversAnother();
        knowsZerosAtFirst();
        atMost300Together();
        ownCoversItNothingHappens();
        ownCoversItThoughNothingStands();
        allThatItCoversStandsNoMore();
        marksAreReplacedAndReplace();
        ownBecomesTheJoin();
        leftOutNothingHappens();
        leftOutOnlyIfMoreThan300Then();
        editingCountsFromItsOwn();
        CHECKS.finish();
    }

    /** Brings what the one lacks, as the other knows it, with a cartridge that is empty before. */
    private static void carry(FolderRounds x, int from, int to) {
        x.lose(2);
        x.visit(2, from, 1 << to);
        x.visit(2, to, 0);
    }

    private static void stationsAre0To3() {
        CHECKS.sentence("Terms", "STATIONS are 0 .. 3");
        for (int s = 0; s < 4; s++) {
            FolderRounds x = new FolderRounds();
            x.edit(s, 0, 1 + s, 0);
            for (int other = 0; other < 4; other++) {
                CHECKS.due("bytes(" + other + ") after edit at " + s, x.bytes(other), other == s ? 1 + s : 0);
            }
        }
        FolderRounds y = new FolderRounds();
        CHECKS.noSuchElement("edit(-1, ..)", () -> y.edit(-1, 0, 1, 1));
        CHECKS.noSuchElement("edit(4, ..)", () -> y.edit(4, 0, 1, 1));
    }

    private static void documentsAre0To9() {
        CHECKS.sentence("Terms", "DOCUMENTS 0 .. 9");
        FolderRounds x = new FolderRounds();
        for (int d = 0; d < 10; d++) {
            x.edit(0, d, d, 0);
        }
        for (int d = 0; d < 10; d++) {
            CHECKS.due("siblings(0, " + d + ")", x.siblings(0, d), 1);
            CHECKS.sibling(x, 0, d, 0, d, 1, 0, 0, 0);
        }
        CHECKS.noSuchElement("edit(0, -1, ..)", () -> x.edit(0, -1, 1, 1));
        CHECKS.noSuchElement("edit(0, 10, ..)", () -> x.edit(0, 10, 1, 1));
    }

    private static void cartridgesAre0To2() {
        CHECKS.sentence("Terms", "CARTRIDGES 0 .. 2");
        FolderRounds x = new FolderRounds();
        for (int c = 0; c < 3; c++) {
            x.edit(c, c, 10 * c, 0);
            CHECKS.due("visit(" + c + ", ..)", x.visit(c, c, 8), 1);
        }
        for (int c = 0; c < 3; c++) {
            CHECKS.due("room(" + c + ")", x.room(c), 92 - 10 * c);
        }
        CHECKS.noSuchElement("visit(-1, ..)", () -> x.visit(-1, 0, 8));
        CHECKS.noSuchElement("visit(3, ..)", () -> x.visit(3, 0, 8));
    }

    private static void countersReach200() {
        CHECKS.sentence("Terms", "A VECTOR has four counters 0 .. 200");
        FolderRounds x = new FolderRounds();
        for (int i = 0; i < 200; i++) {
            x.edit(0, 0, 1, 1);
        }
        carry(x, 0, 1);
        for (int i = 0; i < 199; i++) {
            x.erase(1, 0);
        }
        CHECKS.known(x, 1, 1, 0, 200, 199, 0, 0);
        x.edit(1, 0, 2, 2);
        CHECKS.sibling(x, 1, 0, 0, 2, 200, 200, 0, 0);
        CHECKS.unsupported("the 201st", () -> x.edit(1, 0, 2, 2));
        // A sum of 400 is the greater one, too.
        x.edit(1, 1, 3, 3);
        CHECKS.due("loaded", x.visit(0, 1, 4), 2);
        CHECKS.item(x, 0, 0, 1, 3, 0, 1, 0, 0);
        CHECKS.item(x, 0, 1, 0, 2, 200, 200, 0, 0);
        x.visit(0, 2, 0);
        x.edit(2, 0, 4, 4);
        CHECKS.sibling(x, 2, 0, 0, 4, 200, 200, 1, 0);
    }

    private static void oneCounterForEachStation() {
        CHECKS.sentence("Terms", "one for each station");
        for (int s = 0; s < 4; s++) {
            FolderRounds x = new FolderRounds();
            x.edit(s, 3, 1, 1);
            for (int j = 0; j < 4; j++) {
                CHECKS.due("counter " + j + " after edit at " + s, x.counter(s, 3, 0, j), j == s ? 1 : 0);
            }
        }
    }

    private static void coversIfNoneIsLess() {
        CHECKS.sentence("Terms", "It COVERS another one, if none of its counters is less.");
        for (int a = 0; a < 4; a++) {
            for (int b = 0; b < 4; b++) {
                if (a != b) {
                    oneLessStandsBeside(a, b);
                    oneMoreAndNoneLessReplaces(a, b);
                }
            }
        }
    }

    /** Three versions of a and one of b: each has one counter that is less. */
    private static void oneLessStandsBeside(int a, int b) {
        FolderRounds x = new FolderRounds();
        x.edit(b, 0, 1, 1);
        for (int i = 0; i < 3; i++) {
            x.edit(a, 0, 2, 2);
        }
        carry(x, a, b);
        CHECKS.due("siblings of " + a + " and " + b, x.siblings(b, 0), 2);
    }

    private static void oneMoreAndNoneLessReplaces(int a, int b) {
        FolderRounds x = new FolderRounds();
        x.edit(a, 0, 1, 1);
        carry(x, a, b);
        x.edit(b, 0, 2, 2);
        carry(x, b, a);
        CHECKS.due("siblings, " + b + " behind " + a, x.siblings(a, 0), 1);
        CHECKS.due("length", x.byteOf(a, 0, 0, -1), 2);
        // One with the very same counters is covered as well.
        x.lose(0);
        x.visit(0, b, 15);
        x.visit(0, a, 0);
        CHECKS.due("siblings, the same once more", x.siblings(a, 0), 1);
    }

    private static void joinTakesTheGreaterOfEach() {
        CHECKS.sentence("Terms", "The JOIN of two takes the greater of each.");
        FolderRounds x = new FolderRounds();
        x.edit(0, 0, 1, 1);
        carry(x, 0, 1);
        x.edit(0, 0, 2, 2);
        x.edit(1, 0, 3, 3);
        x.edit(1, 0, 4, 4);
        carry(x, 0, 3);
        CHECKS.known(x, 3, 3, 0, 2, 0, 0, 0);
        carry(x, 1, 3);
        CHECKS.known(x, 3, 3, 0, 2, 2, 0, 0);
        carry(x, 1, 2);
        CHECKS.known(x, 2, 2, 0, 1, 2, 0, 0);
        carry(x, 0, 2);
        CHECKS.known(x, 2, 2, 0, 2, 2, 0, 0);
        CHECKS.sibling(x, 3, 0, 0, 4, 1, 2, 0, 0);
        CHECKS.sibling(x, 3, 0, 1, 2, 2, 0, 0, 0);
    }

    private static void zeroTo40Bytes() {
        CHECKS.sentence("Terms", "either bytes, 0 .. 40 of them");
        FolderRounds x = new FolderRounds();
        x.edit(0, 0, 0, 9);
        x.edit(0, 1, 40, 9);
        carry(x, 0, 1);
        for (int s = 0; s < 2; s++) {
            CHECKS.sibling(x, s, 0, 0, 0, 1, 0, 0, 0);
            CHECKS.sibling(x, s, 1, 0, 40, 1, 0, 0, 0);
            CHECKS.due("bytes", x.bytes(s), 40);
        }
        CHECKS.illegalArgument("edit of length -1", () -> x.edit(0, 2, -1, 9));
        CHECKS.illegalArgument("edit of length 41", () -> x.edit(0, 2, 41, 9));
    }

    private static void bytesWrapAround() {
        CHECKS.sentence("Terms", "byte i being (fill + i) modulo 256");
        for (int fill : new int[] {0, 1, 216, 217, 254, 255}) {
            FolderRounds x = new FolderRounds();
            x.edit(0, 0, 40, fill);
            carry(x, 0, 1);
            for (int i = 0; i < 40; i++) {
                int due = fill + i < 256 ? fill + i : fill + i - 256;
                CHECKS.due("fill " + fill + ", byte " + i, x.byteOf(0, 0, 0, i), due);
                CHECKS.due("fill " + fill + ", byte " + i + ", carried", x.byteOf(1, 0, 0, i), due);
            }
        }
    }

    private static void aMarkHasNone() {
        CHECKS.sentence("Terms", "or none: a MARK, by which the document was erased");
        FolderRounds x = new FolderRounds();
        x.erase(0, 0);
        x.edit(0, 1, 0, 0);
        CHECKS.due("siblings of a mark", x.siblings(0, 0), 0);
        CHECKS.due("siblings of no bytes", x.siblings(0, 1), 1);
        CHECKS.due("marks", x.marks(0), 1);
        CHECKS.due("bytes", x.bytes(0), 0);
        CHECKS.due("loaded", x.visit(0, 0, 2), 2);
        CHECKS.due("item of a mark", x.item(0, 0, 1), -1);
        CHECKS.due("item of no bytes", x.item(0, 1, 1), 0);
        x.visit(0, 1, 0);
        CHECKS.due("siblings of a mark, carried", x.siblings(1, 0), 0);
        CHECKS.due("siblings of no bytes, carried", x.siblings(1, 1), 1);
        CHECKS.due("marks, carried", x.marks(1), 1);
    }

    private static void orderByFirstCounter() {
        CHECKS.sentence("Terms", "Vectors of a document are in ORDER by their first counter");
        FolderRounds x = new FolderRounds();
        x.edit(0, 0, 1, 1);
        x.edit(0, 0, 2, 2);
        carry(x, 0, 1);
        for (int i = 0; i < 20; i++) {
            x.edit(1, 0, 3, 3);
        }
        for (int i = 0; i < 8; i++) {
            x.edit(0, 0, 4, 4);
        }
        x.edit(3, 0, 5, 5);
        carry(x, 0, 2);
        carry(x, 1, 2);
        carry(x, 3, 2);
        CHECKS.due("siblings", x.siblings(2, 0), 3);
        CHECKS.sibling(x, 2, 0, 0, 5, 0, 0, 0, 1);
        CHECKS.sibling(x, 2, 0, 1, 3, 2, 20, 0, 0);
        CHECKS.sibling(x, 2, 0, 2, 4, 10, 0, 0, 0);
    }

    private static void orderThenBySecond() {
        CHECKS.sentence("Terms", "then by the second");
        FolderRounds x = new FolderRounds();
        x.edit(0, 0, 1, 1);
        for (int s = 1; s < 4; s++) {
            carry(x, 0, s);
        }
        x.edit(1, 0, 2, 2);
        x.edit(2, 0, 3, 3);
        x.edit(2, 0, 4, 4);
        carry(x, 1, 3);
        carry(x, 2, 3);
        CHECKS.due("siblings", x.siblings(3, 0), 2);
        CHECKS.sibling(x, 3, 0, 0, 4, 1, 0, 2, 0);
        CHECKS.sibling(x, 3, 0, 1, 2, 1, 1, 0, 0);
    }

    private static void orderAndSoOn() {
        CHECKS.sentence("Terms", "and so on");
        FolderRounds x = new FolderRounds();
        x.edit(0, 0, 1, 1);
        carry(x, 0, 1);
        x.edit(1, 0, 2, 2);
        carry(x, 1, 2);
        carry(x, 1, 3);
        x.edit(2, 0, 3, 3);
        x.edit(3, 0, 4, 4);
        x.edit(3, 0, 5, 5);
        carry(x, 2, 0);
        carry(x, 3, 0);
        CHECKS.due("siblings", x.siblings(0, 0), 2);
        CHECKS.sibling(x, 0, 0, 0, 5, 1, 1, 0, 2);
        CHECKS.sibling(x, 0, 0, 1, 3, 1, 1, 1, 0);
        carry(x, 2, 3);
        CHECKS.sibling(x, 3, 0, 0, 5, 1, 1, 0, 2);
        CHECKS.sibling(x, 3, 0, 1, 3, 1, 1, 1, 0);
    }

    private static void noneCoversAnother() {
        CHECKS.sentence("Terms", "versions that STAND, none of which covers another one");
        FolderRounds x = new FolderRounds();
        for (int i = 0; i < 5; i++) {
            x.edit(i % 2, 0, i, i);
            carry(x, i % 2, 1 - i % 2);
            CHECKS.due("siblings at 0", x.siblings(0, 0), 1);
            CHECKS.due("siblings at 1", x.siblings(1, 0), 1);
        }
        CHECKS.sibling(x, 1, 0, 0, 4, 3, 2, 0, 0);
    }

    private static void knowsZerosAtFirst() {
        CHECKS.sentence("Terms", "a vector (of zeros at first)");
        for (int s = 0; s < 4; s++) {
            FolderRounds x = new FolderRounds();
            for (int i = 0; i < 40; i++) {
                CHECKS.known(x, s, i / 10, i % 10, 0, 0, 0, 0);
            }
        }
    }

    /** So many bytes more, in documents 3 to 9. */
    private static void fill(FolderRounds x, int station, int bytes) {
        int had = x.bytes(station);
        for (int d = 3; d < 10; d++) {
            x.edit(station, d, Math.min(40, Math.max(0, bytes - 40 * (d - 3))), 0);
        }
        CHECKS.due("bytes, filled", x.bytes(station), had + bytes);
    }

    private static void atMost300Together() {
        CHECKS.sentence("Terms", "Bytes of all that stands at a station are at most 300 together.");
        for (int length = 19; length <= 22; length++) {
            FolderRounds x = new FolderRounds();
            fill(x, 1, 279);
            x.edit(0, 0, length, 0);
            carry(x, 0, 1);
            boolean fits = length <= 21;
            CHECKS.due("siblings of length " + length, x.siblings(1, 0), fits ? 1 : 0);
            CHECKS.due("bytes", x.bytes(1), fits ? 279 + length : 279);
            CHECKS.due("leftOut", x.leftOut(), fits ? 0 : 1);
        }
        // Versions of one document side by side count as well, marks and no bytes do not.
        FolderRounds y = new FolderRounds();
        fill(y, 1, 270);
        y.edit(1, 0, 30, 0);
        y.edit(0, 0, 1, 0);
        y.edit(2, 0, 0, 0);
        y.erase(3, 0);
        for (int s : new int[] {0, 2, 3}) {
            carry(y, s, 1);
        }
        CHECKS.due("siblings", y.siblings(1, 0), 2);
        CHECKS.due("marks", y.marks(1), 1);
        CHECKS.due("bytes", y.bytes(1), 300);
        CHECKS.due("leftOut", y.leftOut(), 1);
    }

    private static void ownCoversItNothingHappens() {
        CHECKS.sentence("Terms", "if its own vector of the document covers it, nothing happens");
        FolderRounds x = new FolderRounds();
        x.edit(0, 0, 40, 0);
        x.visit(0, 0, 2);
        x.copy(0, 1);
        x.visit(0, 1, 0);
        x.visit(1, 1, 0);
        CHECKS.due("siblings, the same twice", x.siblings(1, 0), 1);
        x.edit(1, 0, 1, 0);
        x.lose(0);
        x.visit(0, 0, 2);
        x.visit(0, 1, 0);
        CHECKS.due("siblings, an older one", x.siblings(1, 0), 1);
        CHECKS.sibling(x, 1, 0, 0, 1, 1, 1, 0, 0);
        CHECKS.known(x, 1, 1, 0, 1, 1, 0, 0);
        CHECKS.due("leftOut", x.leftOut(), 0);
    }

    /** Once its mark was dropped nothing of the document stands, and what comes late is known all the same. */
    private static void ownCoversItThoughNothingStands() {
        FolderRounds x = new FolderRounds();
        x.edit(0, 0, 40, 0);
        x.visit(1, 0, 2);
        x.erase(0, 0);
        for (int s = 0; s < 4; s++) {
            x.visit(0, s, 15);
        }
        CHECKS.due("marks at 3, dropped", x.marks(3), 0);
        fill(x, 3, 280);
        x.visit(1, 3, 0);
        CHECKS.due("siblings at 3", x.siblings(3, 0), 0);
        CHECKS.due("bytes at 3", x.bytes(3), 280);
        CHECKS.due("leftOut: it was not to stand", x.leftOut(), 0);
        CHECKS.known(x, 3, 3, 0, 2, 0, 0, 0);
    }

    private static void allThatItCoversStandsNoMore() {
        CHECKS.sentence("Terms", "Otherwise all that the version covers stands no more, it stands");
        FolderRounds x = new FolderRounds();
        for (int s = 0; s < 4; s++) {
            x.edit(s, 0, 1 + s, 0);
            x.edit(s, 1, 11 + s, 0);
        }
        for (int s = 0; s < 3; s++) {
            carry(x, s, 3);
        }
        carry(x, 0, 1);
        x.edit(1, 0, 20, 0);
        CHECKS.due("siblings at 3 before", x.siblings(3, 0), 4);
        carry(x, 1, 3);
        CHECKS.due("siblings at 3", x.siblings(3, 0), 3);
        CHECKS.sibling(x, 3, 0, 0, 4, 0, 0, 0, 1);
        CHECKS.sibling(x, 3, 0, 1, 3, 0, 0, 1, 0);
        CHECKS.sibling(x, 3, 0, 2, 20, 1, 2, 0, 0);
        CHECKS.due("siblings of another document", x.siblings(3, 1), 4);
    }

    private static void marksAreReplacedAndReplace() {
        FolderRounds x = new FolderRounds();
        x.erase(0, 0);
        x.edit(0, 1, 9, 9);
        carry(x, 0, 1);
        CHECKS.due("marks before", x.marks(1), 1);
        x.edit(0, 0, 5, 5);
        x.erase(0, 1);
        carry(x, 0, 1);
        CHECKS.due("marks: one went, one came", x.marks(1), 1);
        CHECKS.due("siblings of what was erased before", x.siblings(1, 0), 1);
        CHECKS.due("siblings of what is erased now", x.siblings(1, 1), 0);
        CHECKS.due("bytes", x.bytes(1), 5);
    }

    private static void ownBecomesTheJoin() {
        CHECKS.sentence("Terms", "and its own becomes the join with it");
        FolderRounds x = new FolderRounds();
        x.edit(1, 0, 1, 1);
        x.edit(1, 0, 1, 1);
        x.edit(0, 0, 2, 2);
        x.edit(2, 9, 1, 1);
        carry(x, 0, 1);
        CHECKS.known(x, 1, 1, 0, 1, 2, 0, 0);
        CHECKS.known(x, 0, 0, 0, 1, 0, 0, 0);
        carry(x, 2, 1);
        CHECKS.known(x, 1, 1, 9, 0, 0, 1, 0);
        CHECKS.known(x, 1, 1, 0, 1, 2, 0, 0);
        CHECKS.known(x, 1, 1, 8, 0, 0, 0, 0);
    }

    private static void leftOutNothingHappens() {
        CHECKS.sentence("Terms", "but if there would be more than 300 bytes then, it is LEFT OUT, and nothing happens");
        FolderRounds x = new FolderRounds();
        x.edit(0, 0, 10, 0);
        carry(x, 0, 1);
        fill(x, 1, 280);
        x.edit(1, 1, 10, 0);
        x.edit(0, 0, 11, 0);
        carry(x, 0, 1);
        CHECKS.due("leftOut", x.leftOut(), 1);
        CHECKS.due("siblings: what it covers stands", x.siblings(1, 0), 1);
        CHECKS.sibling(x, 1, 0, 0, 10, 1, 0, 0, 0);
        CHECKS.known(x, 1, 1, 0, 1, 0, 0, 0);
        CHECKS.due("bytes", x.bytes(1), 300);
    }

    private static void leftOutOnlyIfMoreThan300Then() {
        FolderRounds x = new FolderRounds();
        x.edit(0, 0, 10, 0);
        carry(x, 0, 1);
        fill(x, 1, 280);
        x.edit(1, 1, 10, 0);
        x.edit(0, 0, 10, 5);
        carry(x, 0, 1);
        CHECKS.due("leftOut: as many were replaced", x.leftOut(), 0);
        CHECKS.sibling(x, 1, 0, 0, 10, 2, 0, 0, 0);
        x.edit(0, 0, 0, 0);
        carry(x, 0, 1);
        CHECKS.sibling(x, 1, 0, 0, 0, 3, 0, 0, 0);
        CHECKS.due("bytes", x.bytes(1), 290);
        x.erase(0, 0);
        carry(x, 0, 1);
        CHECKS.due("marks", x.marks(1), 1);
        CHECKS.due("leftOut", x.leftOut(), 0);
    }

    private static void editingCountsFromItsOwn() {
        CHECKS.sentence("Terms", "EDITING makes a version with its own vector, its own counter in it 1 more");
        FolderRounds x = new FolderRounds();
        x.edit(0, 0, 1, 1);
        x.edit(2, 0, 2, 2);
        carry(x, 0, 2);
        x.edit(2, 0, 3, 3);
        CHECKS.due("siblings", x.siblings(2, 0), 1);
        CHECKS.sibling(x, 2, 0, 0, 3, 1, 0, 2, 0);
        x.erase(2, 0);
        CHECKS.known(x, 2, 2, 0, 1, 0, 3, 0);
        for (int s : new int[] {2, 0, 1, 3}) {
            x.visit(0, s, 15);
        }
        CHECKS.due("marks at 3, dropped", x.marks(3), 0);
        x.edit(3, 0, 4, 4);
        CHECKS.sibling(x, 3, 0, 0, 4, 1, 0, 3, 1);
    }
}
