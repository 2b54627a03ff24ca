/** Promises 7, 8 and 17: visits, whole and cut, and what they leave out. */
public final class VisitTest {
    private static final Checks CHECKS = new Checks();

    public static void main(String[] args) {
        promise7Destinations();
        promise7LoadingOrder();
        promise7PassesWhatHasNoRoom();
        promise7UnloadingReplaces();
        promise7KnowledgeTravels();
        promise7MarksAreDropped();
        promise7MarksWaitForEach();
        promise7DroppedMarksStayDropped();
        promise7LoadsWhatIsLacked();
        promise8CutWhileUnloading();
        promise8CutBetween();
        promise8CutWhileLoading();
        promise8CutCountsBoth();
        promise8CutPassedAreNotCounted();
        promise8CutDropsMarks();
        promises7And8WrongInputs();
        promise17LeftOut();
        promise17CoveredIsNotLeftOut();
        promise17ReplacingMayFit();
        CHECKS.finish();
    }

    private static void promise7Destinations() {
        FolderRounds x = new FolderRounds();
        x.edit(1, 0, 5, 5);
        CHECKS.due("visit for nobody", x.visit(0, 1, 0), 0);
        CHECKS.due("visit for the station itself", x.visit(0, 1, 2), 0);
        CHECKS.due("visit for no station", x.visit(0, 1, 0xFFFFFFF0), 0);
        CHECKS.due("visit for the last one", x.visit(0, 1, 8), 1);
        CHECKS.due("visit for all bits", x.visit(0, 1, -1), 1);
        CHECKS.due("visit for itself and others", x.visit(0, 1, 3), 1);
        CHECKS.item(x, 0, 0, 0, 5, 0, 1, 0, 0);
        CHECKS.due("siblings: what is loaded stands on", x.siblings(1, 0), 1);
        CHECKS.due("room", x.room(0), 87);
    }

    private static void promise7LoadingOrder() {
        FolderRounds x = new FolderRounds();
        // Document 7 has versions of 0 (sum 1) and 1 (sum 1), document 2 one of sum 2, document 9 of sum 1.
        x.edit(0, 7, 1, 0);
        x.edit(1, 7, 2, 0);
        x.edit(1, 2, 3, 0);
        x.edit(1, 2, 4, 0);
        x.edit(1, 9, 5, 0);
        x.erase(1, 8);
        x.visit(0, 0, 2);
        CHECKS.due("loaded", x.visit(0, 1, 4), 5);
        CHECKS.item(x, 0, 0, 7, 2, 0, 1, 0, 0);
        CHECKS.item(x, 0, 1, 7, 1, 1, 0, 0, 0);
        CHECKS.item(x, 0, 2, 8, -1, 0, 1, 0, 0);
        CHECKS.item(x, 0, 3, 9, 5, 0, 1, 0, 0);
        CHECKS.item(x, 0, 4, 2, 4, 0, 2, 0, 0);
        CHECKS.rowLength(x, 0, 5);
        CHECKS.due("room", x.room(0), 100 - 5 * 8 - 12);
    }

    private static void promise7PassesWhatHasNoRoom() {
        FolderRounds x = new FolderRounds();
        x.edit(0, 0, 40, 0);
        x.edit(0, 1, 36, 0);
        x.edit(0, 2, 1, 0);
        x.edit(0, 3, 0, 0);
        x.edit(0, 4, 0, 0);
        x.erase(0, 5);
        CHECKS.due("loaded: 48 and 44 and one of 8", x.visit(0, 0, 2), 3);
        CHECKS.item(x, 0, 0, 0, 40, 1, 0, 0, 0);
        CHECKS.item(x, 0, 1, 1, 36, 1, 0, 0, 0);
        CHECKS.item(x, 0, 2, 3, 0, 1, 0, 0, 0);
        CHECKS.due("room", x.room(0), 0);

        FolderRounds y = new FolderRounds();
        for (int d = 0; d < 10; d++) {
            y.erase(0, d);
            y.erase(1, d);
        }
        CHECKS.due("ten marks", y.visit(0, 0, 2), 10);
        CHECKS.due("twelve of twenty marks", y.visit(0, 1, 4), 12);
        CHECKS.due("room", y.room(0), 4);
        CHECKS.item(y, 0, 11, 5, -1, 1, 0, 0, 0);
    }

    private static void promise7UnloadingReplaces() {
        FolderRounds x = new FolderRounds();
        x.edit(0, 0, 10, 0);
        x.visit(0, 0, 2);
        x.copy(0, 1);
        x.visit(0, 1, 0);
        CHECKS.sibling(x, 1, 0, 0, 10, 1, 0, 0, 0);
        x.edit(1, 0, 20, 0);
        CHECKS.sibling(x, 1, 0, 0, 20, 1, 1, 0, 0);
        x.visit(1, 1, 0);
        CHECKS.due("siblings: the old one is covered", x.siblings(1, 0), 1);
        CHECKS.sibling(x, 1, 0, 0, 20, 1, 1, 0, 0);
        x.visit(0, 1, 1);
        x.visit(0, 0, 0);
        CHECKS.due("siblings: the new one replaces", x.siblings(0, 0), 1);
        CHECKS.sibling(x, 0, 0, 0, 20, 1, 1, 0, 0);
        CHECKS.due("bytes", x.bytes(0), 20);
        CHECKS.known(x, 0, 0, 0, 1, 1, 0, 0);

        // One that covers only a part of what stands leaves the others.
        FolderRounds y = new FolderRounds();
        y.edit(0, 0, 1, 0);
        y.edit(1, 0, 2, 0);
        y.visit(0, 0, 2);
        y.visit(0, 1, 0);
        CHECKS.due("siblings", y.siblings(1, 0), 2);
        y.edit(0, 0, 3, 0);
        y.visit(0, 0, 2);
        y.visit(0, 1, 0);
        CHECKS.due("siblings", y.siblings(1, 0), 2);
        CHECKS.sibling(y, 1, 0, 0, 2, 0, 1, 0, 0);
        CHECKS.sibling(y, 1, 0, 1, 3, 2, 0, 0, 0);
        CHECKS.known(y, 1, 1, 0, 2, 1, 0, 0);
    }

    private static void promise7KnowledgeTravels() {
        FolderRounds x = new FolderRounds();
        x.edit(0, 3, 4, 4);
        x.visit(0, 0, 0);
        x.visit(0, 1, 0);
        CHECKS.known(x, 1, 0, 3, 1, 0, 0, 0);
        CHECKS.known(x, 1, 1, 3, 0, 0, 0, 0);
        x.visit(0, 2, 0);
        CHECKS.known(x, 2, 0, 3, 1, 0, 0, 0);
        CHECKS.known(x, 2, 2, 3, 0, 0, 0, 0);
        x.edit(0, 3, 4, 4);
        x.visit(1, 0, 0);
        x.visit(1, 2, 0);
        x.visit(0, 2, 0);
        CHECKS.known(x, 2, 0, 3, 2, 0, 0, 0);
        // An older table takes nothing away.
        FolderRounds y = new FolderRounds();
        y.visit(0, 0, 0);
        y.edit(0, 3, 4, 4);
        y.visit(1, 0, 0);
        y.visit(1, 1, 0);
        y.visit(0, 1, 0);
        CHECKS.known(y, 1, 0, 3, 1, 0, 0, 0);
        // What a table says of the station itself does not reach its own.
        y.visit(2, 1, 0);
        y.visit(2, 0, 0);
        CHECKS.known(y, 0, 0, 3, 1, 0, 0, 0);
        CHECKS.known(y, 0, 1, 3, 0, 0, 0, 0);
    }

    private static void promise7MarksAreDropped() {
        FolderRounds x = new FolderRounds();
        x.edit(0, 0, 9, 9);
        x.erase(0, 0);
        x.visit(0, 0, 15);
        x.visit(0, 1, 15);
        x.visit(0, 2, 15);
        CHECKS.due("marks at 2: 3 has it not", x.marks(2), 1);
        CHECKS.due("loaded: nobody lacks it", x.visit(0, 3, 15), 0);
        CHECKS.due("marks at 3", x.marks(3), 0);
        CHECKS.rowLength(x, 0, 0);
        CHECKS.due("marks at 0", x.marks(0), 1);
        x.visit(0, 0, 0);
        CHECKS.due("marks at 0, dropped for no destination, too", x.marks(0), 0);
        CHECKS.known(x, 0, 3, 0, 2, 0, 0, 0);
        CHECKS.due("marks at 1", x.marks(1), 1);
        CHECKS.due("cut while nothing moves", x.cut(0, 1, 15, 0), 0);
        CHECKS.due("marks at 1, cut, but all was done", x.marks(1), 0);
    }

    /** Whichever station comes last: no mark is dropped before it is known to have had it. */
    private static void promise7MarksWaitForEach() {
        for (int last = 0; last < 4; last++) {
            FolderRounds x = new FolderRounds();
            x.erase((last + 1) % 4, 2);
            for (int i = 1; i < 4; i++) {
                x.visit(0, (last + i) % 4, 15);
                CHECKS.due("marks before " + last + " had it", x.marks((last + i) % 4), 1);
            }
            x.visit(0, last, 15);
            CHECKS.due("marks at " + last, x.marks(last), 0);
        }
    }

    private static void promise7DroppedMarksStayDropped() {
        FolderRounds x = new FolderRounds();
        x.edit(0, 0, 9, 9);
        x.visit(1, 0, 15);
        x.erase(0, 0);
        x.visit(0, 0, 15);
        x.visit(0, 1, 15);
        x.visit(0, 2, 15);
        x.copy(0, 2);
        x.visit(0, 3, 15);
        CHECKS.due("marks at 3", x.marks(3), 0);
        x.visit(2, 3, 15);
        CHECKS.due("marks at 3: its own covers the mark", x.marks(3), 0);
        x.visit(1, 3, 15);
        CHECKS.due("siblings at 3: its own covers the old version", x.siblings(3, 0), 0);
        x.edit(3, 0, 2, 2);
        CHECKS.sibling(x, 3, 0, 0, 2, 2, 0, 0, 1);
    }

    private static void promise7LoadsWhatIsLacked() {
        FolderRounds x = new FolderRounds();
        x.edit(0, 0, 1, 1);
        x.visit(0, 0, 2);
        CHECKS.due("loaded again: it may be lost", x.visit(1, 0, 2), 1);
        CHECKS.due("loaded for 0: it is known to have it", x.visit(0, 1, 1), 0);
        CHECKS.due("loaded for 2", x.visit(0, 1, 4), 1);
        CHECKS.due("loaded for 0 or 2", x.visit(0, 1, 5), 1);
        CHECKS.due("loaded for 1: 0 knows it has it", x.visit(0, 0, 2), 0);
        CHECKS.due("loaded for 1 and 3", x.visit(0, 0, 10), 1);
    }

    /** Cartridge 0 with three versions of station 0 for station 1. */
    private static FolderRounds threeLoaded() {
        FolderRounds x = new FolderRounds();
        x.edit(0, 0, 10, 0);
        x.edit(0, 1, 11, 0);
        x.edit(0, 2, 12, 0);
        CHECKS.due("loaded", x.visit(0, 0, 2), 3);
        return x;
    }

    private static void promise8CutWhileUnloading() {
        FolderRounds x = threeLoaded();
        x.edit(1, 9, 1, 1);
        CHECKS.due("cut after 0", x.cut(0, 1, 15, 0), 0);
        CHECKS.rowLength(x, 0, 3);
        CHECKS.due("bytes", x.bytes(1), 1);
        CHECKS.due("cut after 2", x.cut(0, 1, 15, 2), 0);
        CHECKS.due("bytes", x.bytes(1), 22);
        CHECKS.rowLength(x, 0, 1);
        CHECKS.item(x, 0, 0, 2, 12, 1, 0, 0, 0);
        CHECKS.due("room", x.room(0), 80);
        CHECKS.known(x, 1, 1, 0, 1, 0, 0, 0);
        CHECKS.known(x, 1, 1, 2, 0, 0, 0, 0);
        CHECKS.known(x, 1, 0, 0, 0, 0, 0, 0);
        // The table was kept: another station learns from it.
        x.visit(0, 2, 0);
        CHECKS.known(x, 2, 0, 0, 1, 0, 0, 0);
        CHECKS.known(x, 2, 2, 2, 1, 0, 0, 0);
        CHECKS.known(x, 2, 1, 0, 0, 0, 0, 0);
    }

    private static void promise8CutBetween() {
        FolderRounds x = threeLoaded();
        CHECKS.due("cut after 3, as many as went", x.cut(0, 1, 4, 3), 0);
        CHECKS.rowLength(x, 0, 0);
        CHECKS.due("bytes", x.bytes(1), 33);
        CHECKS.known(x, 1, 0, 2, 1, 0, 0, 0);
        // While loading the table is new already.
        x.visit(0, 2, 0);
        CHECKS.known(x, 2, 1, 2, 1, 0, 0, 0);
        CHECKS.known(x, 2, 0, 2, 1, 0, 0, 0);
    }

    private static void promise8CutWhileLoading() {
        FolderRounds x = new FolderRounds();
        x.edit(0, 0, 10, 0);
        x.edit(0, 1, 11, 0);
        CHECKS.due("cut after 0, on an empty one", x.cut(0, 0, 2, 0), 0);
        CHECKS.rowLength(x, 0, 0);
        x.copy(0, 1);
        x.visit(1, 3, 0);
        CHECKS.known(x, 3, 0, 1, 1, 0, 0, 0);
        CHECKS.due("cut after 1", x.cut(0, 0, 2, 1), 1);
        CHECKS.rowLength(x, 0, 1);
        CHECKS.item(x, 0, 0, 0, 10, 1, 0, 0, 0);
        x.lose(0);
        CHECKS.due("cut after all", x.cut(0, 0, 2, 2), 2);
        x.lose(0);
        CHECKS.due("cut after more", x.cut(0, 0, 2, Integer.MAX_VALUE), 2);
    }

    private static void promise8CutCountsBoth() {
        FolderRounds x = threeLoaded();
        x.edit(1, 7, 1, 1);
        x.edit(1, 8, 1, 1);
        CHECKS.due("cut after 3 that went and 2 that were loaded", x.cut(0, 1, 5, 5), 2);
        CHECKS.rowLength(x, 0, 2);
        CHECKS.item(x, 0, 1, 1, 11, 1, 0, 0, 0);
        // Those of which nothing comes are counted, too.
        FolderRounds y = threeLoaded();
        CHECKS.due("cut at the station that has them", y.cut(0, 0, 2, 4), 1);
        CHECKS.rowLength(y, 0, 1);
    }

    private static void promise8CutPassedAreNotCounted() {
        FolderRounds x = new FolderRounds();
        x.edit(0, 0, 40, 0);
        x.edit(0, 1, 36, 0);
        x.edit(0, 2, 40, 0);
        x.erase(0, 3);
        x.erase(0, 3);
        CHECKS.due("cut after 3, one passed", x.cut(0, 0, 2, 3), 3);
        CHECKS.item(x, 0, 0, 0, 40, 1, 0, 0, 0);
        CHECKS.item(x, 0, 1, 1, 36, 1, 0, 0, 0);
        CHECKS.item(x, 0, 2, 3, -1, 2, 0, 0, 0);
        x.lose(0);
        CHECKS.due("cut after 2", x.cut(0, 0, 2, 2), 2);
        CHECKS.due("room", x.room(0), 8);
    }

    private static void promise8CutDropsMarks() {
        FolderRounds x = new FolderRounds();
        x.erase(0, 0);
        for (int s = 0; s < 4; s++) {
            x.visit(0, s, 15);
        }
        CHECKS.due("marks at 0", x.marks(0), 1);
        x.edit(3, 1, 1, 1);
        x.visit(0, 3, 15);
        CHECKS.due("cut before the table is joined", x.cut(0, 0, 15, 0), 0);
        CHECKS.due("marks at 0", x.marks(0), 1);
        CHECKS.due("cut before loading", x.cut(0, 0, 15, 1), 0);
        CHECKS.due("marks at 0", x.marks(0), 0);
    }

    private static void promises7And8WrongInputs() {
        FolderRounds x = threeLoaded();
        CHECKS.noSuchElement("visit(3, 0, 1)", () -> x.visit(3, 0, 1));
        CHECKS.noSuchElement("visit(-1, 0, 1)", () -> x.visit(-1, 0, 1));
        CHECKS.noSuchElement("visit(0, 4, 1)", () -> x.visit(0, 4, 1));
        CHECKS.noSuchElement("visit(0, -1, 1)", () -> x.visit(0, -1, 1));
        CHECKS.noSuchElement("cut(3, 0, 1, 1)", () -> x.cut(3, 0, 1, 1));
        CHECKS.noSuchElement("cut(-1, 0, 1, -1)", () -> x.cut(-1, 0, 1, -1));
        CHECKS.noSuchElement("cut(0, 4, 1, -1)", () -> x.cut(0, 4, 1, -1));
        CHECKS.noSuchElement("cut(0, -1, 1, 1)", () -> x.cut(0, -1, 1, 1));
        CHECKS.illegalArgument("cut(0, 1, 1, -1)", () -> x.cut(0, 1, 1, -1));
        CHECKS.illegalArgument("cut(0, 1, 1, least)", () -> x.cut(0, 1, 1, Integer.MIN_VALUE));
        CHECKS.rowLength(x, 0, 3);
        CHECKS.due("bytes", x.bytes(1), 0);
    }

    /** A station with so many bytes, in documents from 3 on. */
    private static void fillUp(FolderRounds x, int station, int bytes) {
        int left = bytes;
        for (int d = 3; d < 10 && left > 0; d++) {
            int length = Math.min(40, left);
            x.edit(station, d, length, 0);
            left -= length;
        }
    }

    private static void promise17LeftOut() {
        FolderRounds x = threeLoaded();
        fillUp(x, 1, 280);
        x.copy(0, 1);
        CHECKS.due("loaded", x.visit(0, 1, 0), 0);
        CHECKS.due("leftOut: 10 fit, 11 and 12 do not", x.leftOut(), 2);
        CHECKS.due("bytes", x.bytes(1), 290);
        CHECKS.rowLength(x, 0, 0);
        CHECKS.known(x, 1, 1, 0, 1, 0, 0, 0);
        CHECKS.known(x, 1, 1, 1, 0, 0, 0, 0);
        CHECKS.known(x, 1, 0, 1, 1, 0, 0, 0);
        x.visit(1, 1, 0);
        CHECKS.due("leftOut: the same ones again", x.leftOut(), 4);
        x.visit(1, 0, 2);
        x.erase(1, 3);
        x.visit(1, 1, 0);
        CHECKS.due("leftOut: now they fit", x.leftOut(), 4);
        CHECKS.due("bytes", x.bytes(1), 273);

        FolderRounds y = threeLoaded();
        fillUp(y, 1, 280);
        CHECKS.due("cut after 2", y.cut(0, 1, 1, 2), 0);
        CHECKS.due("leftOut while cut", y.leftOut(), 1);
        CHECKS.rowLength(y, 0, 1);
    }

    private static void promise17CoveredIsNotLeftOut() {
        FolderRounds x = new FolderRounds();
        x.edit(0, 0, 40, 0);
        x.visit(0, 0, 2);
        x.copy(0, 1);
        x.visit(0, 1, 0);
        x.erase(1, 0);
        fillUp(x, 1, 280);
        x.visit(1, 1, 0);
        CHECKS.due("leftOut: its own covers it", x.leftOut(), 0);
        CHECKS.due("bytes", x.bytes(1), 280);
    }

    private static void promise17ReplacingMayFit() {
        FolderRounds x = new FolderRounds();
        x.edit(0, 0, 20, 0);
        x.visit(0, 0, 2);
        x.visit(0, 1, 1);
        fillUp(x, 1, 280);
        CHECKS.due("bytes", x.bytes(1), 300);
        x.edit(0, 0, 21, 0);
        x.edit(0, 2, 0, 0);
        x.erase(0, 1);
        x.visit(0, 0, 2);
        x.visit(0, 1, 1);
        CHECKS.due("leftOut: 301 bytes", x.leftOut(), 1);
        CHECKS.sibling(x, 1, 0, 0, 20, 1, 0, 0, 0);
        CHECKS.due("siblings of no bytes at 300", x.siblings(1, 2), 1);
        CHECKS.due("marks at 300", x.marks(1), 1);
        x.edit(0, 0, 20, 1);
        x.visit(0, 0, 2);
        x.visit(0, 1, 0);
        CHECKS.due("leftOut: 300 bytes", x.leftOut(), 1);
        CHECKS.sibling(x, 1, 0, 0, 20, 3, 0, 0, 0);
        CHECKS.due("bytes", x.bytes(1), 300);
    }
}
