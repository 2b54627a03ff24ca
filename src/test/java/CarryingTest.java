/** The sentences of the terms on cartridges, visits and visits that are cut. */
public final class CarryingTest {
    private static final Checks CHECKS = new Checks();

    public static void main(String[] args) {
        roomFor100();
        aVersionTakes8AndItsBytes();
        tableOfZerosAtFirst();
        versionsGoInTheirOrder();
        allOfThemGo();
        joinWithTheTable();
        ofItselfItsOwnStays();
        marksDroppedIfAllHadThem();
        marksStayIfOneLacksThem();
        marksDroppedIfLaterOnesAreKnown();
        onlyMarksAreDropped();
        eachMarkForItself();
        manyMarksAtOnce();
        rowAndTableBecomeEmpty();
        tableIsWhatTheStationKnows();
        loadedIfADestinationLacksThem();
        leastSumFirst();
        leastSumOverAllCounters();
        leastSumBeyond255();
        thenByDocument();
        thenInOrder();
        noRoomIsPassed();
        wholeVisitHasNoEndBefore();
        cutAfterEachNumber();
        cutOnlyIfAnotherOneWould();
        cutWhileUnloadingKeepsTheRest();
        cutWhileUnloadingTeachesNothing();
        cutWhileUnloadingDropsNoMark();
        cutWhileLoadingHasTheNewTable();
        cutOfAnEmptyCartridge();
        CHECKS.finish();
    }

    private static void roomFor100() {
        CHECKS.sentence("Terms", "A CARTRIDGE has room for 100");
        for (int length = 0; length < 2; length++) {
            FolderRounds x = new FolderRounds();
            x.edit(0, 0, 40, 0);
            x.edit(0, 1, 36, 0);
            x.edit(0, 2, length, 0);
            boolean fits = length == 0;
            CHECKS.due("loaded, " + (100 + length) + " in all", x.visit(0, 0, 2), fits ? 3 : 2);
            CHECKS.due("room", x.room(0), fits ? 0 : 8);
            CHECKS.rowLength(x, 0, fits ? 3 : 2);
        }
        FolderRounds y = new FolderRounds();
        y.edit(0, 0, 40, 0);
        y.edit(0, 1, 36, 0);
        y.erase(0, 2);
        y.erase(0, 3);
        CHECKS.due("loaded, full by a mark", y.visit(0, 0, 2), 3);
        CHECKS.due("room", y.room(0), 0);
    }

    private static void aVersionTakes8AndItsBytes() {
        CHECKS.sentence("Terms", "a version takes 8 and its bytes");
        for (int length = 0; length <= 40; length += 20) {
            FolderRounds x = new FolderRounds();
            x.edit(0, 0, length, 0);
            x.visit(0, 0, 2);
            CHECKS.due("room, length " + length, x.room(0), 92 - length);
        }
        FolderRounds y = new FolderRounds();
        y.erase(0, 0);
        y.visit(0, 0, 2);
        CHECKS.due("room, a mark", y.room(0), 92);
    }

    private static void tableOfZerosAtFirst() {
        CHECKS.sentence("Terms", "a TABLE: for each station and document a vector (zeros at first)");
        for (int c = 0; c < 3; c++) {
            FolderRounds x = new FolderRounds();
            x.visit(c, 3, 15);
            for (int i = 0; i < 40; i++) {
                CHECKS.known(x, 3, i / 10, i % 10, 0, 0, 0, 0);
            }
        }
    }

    /** So many bytes in documents 3 to 9. */
    private static void fill(FolderRounds x, int station, int bytes) {
        for (int d = 3; d < 10; d++) {
            x.edit(station, d, Math.min(40, Math.max(0, bytes - 40 * (d - 3))), 0);
        }
    }

    private static void versionsGoInTheirOrder() {
        CHECKS.sentence("Terms", "the versions, in their order, each go from the cartridge and come to stand");
        FolderRounds x = new FolderRounds();
        fill(x, 1, 280);
        x.edit(0, 0, 15, 0);
        x.edit(0, 1, 10, 0);
        x.edit(0, 2, 5, 0);
        CHECKS.due("loaded", x.visit(0, 0, 2), 3);
        x.visit(0, 1, 0);
        CHECKS.due("siblings of the first", x.siblings(1, 0), 1);
        CHECKS.due("siblings of the second, for which there are no bytes", x.siblings(1, 1), 0);
        CHECKS.due("siblings of the third", x.siblings(1, 2), 1);
        CHECKS.due("bytes", x.bytes(1), 300);
        CHECKS.due("leftOut", x.leftOut(), 1);

        // The first one replaces a longer one, so that the second one has bytes left for it.
        FolderRounds y = new FolderRounds();
        y.edit(0, 0, 20, 0);
        y.visit(0, 0, 2);
        y.visit(0, 1, 0);
        fill(y, 1, 280);
        y.edit(0, 0, 5, 0);
        y.edit(0, 1, 15, 0);
        y.edit(0, 1, 15, 0);
        CHECKS.due("loaded", y.visit(0, 0, 2), 2);
        y.visit(0, 1, 0);
        CHECKS.due("leftOut", y.leftOut(), 0);
        CHECKS.due("bytes", y.bytes(1), 300);
    }

    private static void allOfThemGo() {
        CHECKS.sentence("Terms", "those of which nothing comes, or that are left out, go, too");
        FolderRounds x = new FolderRounds();
        x.edit(0, 0, 10, 0);
        x.edit(0, 1, 0, 0);
        x.visit(0, 0, 6);
        x.copy(0, 1);
        x.visit(0, 0, 0);
        CHECKS.rowLength(x, 0, 0);
        CHECKS.due("room, nothing came of them", x.room(0), 100);
        fill(x, 1, 280);
        x.edit(1, 2, 20, 0);
        x.visit(1, 1, 0);
        CHECKS.rowLength(x, 1, 0);
        CHECKS.due("leftOut", x.leftOut(), 1);
        CHECKS.due("siblings of no bytes", x.siblings(1, 1), 1);
        x.visit(1, 2, 0);
        CHECKS.due("siblings: the one left out is not carried on", x.siblings(2, 0), 0);
    }

    private static void joinWithTheTable() {
        CHECKS.sentence("Terms", "Then what the station knows becomes the join with the table, of each station and document");
        FolderRounds x = new FolderRounds();
        for (int s = 0; s < 3; s++) {
            x.edit(s, 0, 1, 1);
            x.edit(s, 9, 1, 1);
            x.edit(s, 9, 1, 1);
            x.visit(0, s, 0);
        }
        x.visit(0, 3, 0);
        CHECKS.known(x, 3, 0, 0, 1, 0, 0, 0);
        CHECKS.known(x, 3, 0, 9, 2, 0, 0, 0);
        CHECKS.known(x, 3, 1, 0, 0, 1, 0, 0);
        CHECKS.known(x, 3, 1, 9, 0, 2, 0, 0);
        CHECKS.known(x, 3, 2, 0, 0, 0, 1, 0);
        CHECKS.known(x, 3, 2, 9, 0, 0, 2, 0);
        CHECKS.known(x, 3, 3, 9, 0, 0, 0, 0);
        CHECKS.known(x, 3, 0, 8, 0, 0, 0, 0);
        // Of two tables the greater of each is kept, whichever comes first.
        x.visit(1, 0, 0);
        x.edit(0, 0, 1, 1);
        x.visit(2, 0, 0);
        x.visit(2, 3, 0);
        CHECKS.known(x, 3, 0, 0, 2, 0, 0, 0);
        x.visit(1, 3, 0);
        CHECKS.known(x, 3, 0, 0, 2, 0, 0, 0);
        CHECKS.known(x, 3, 2, 9, 0, 0, 2, 0);
    }

    private static void ofItselfItsOwnStays() {
        CHECKS.sentence("Terms", "but of itself only up to its own, which stays");
        FolderRounds x = new FolderRounds();
        x.edit(0, 0, 30, 0);
        fill(x, 1, 280);
        x.visit(0, 0, 2);
        x.visit(0, 1, 0);
        CHECKS.due("leftOut", x.leftOut(), 1);
        CHECKS.known(x, 1, 0, 0, 1, 0, 0, 0);
        CHECKS.known(x, 1, 1, 0, 0, 0, 0, 0);
        CHECKS.known(x, 1, 1, 3, 0, 1, 0, 0);
        // An older table of what it had takes nothing from its own.
        x.visit(1, 1, 0);
        x.edit(1, 3, 1, 0);
        x.visit(1, 1, 0);
        CHECKS.known(x, 1, 1, 3, 0, 2, 0, 0);
        CHECKS.known(x, 1, 1, 0, 0, 0, 0, 0);
    }

    /** A mark that was made at the first of the stations and brought to each of them in turn. */
    private static FolderRounds markBroughtTo(int... stations) {
        FolderRounds x = new FolderRounds();
        x.erase(stations[0], 4);
        for (int s : stations) {
            x.visit(0, s, 15);
        }
        return x;
    }

    private static void marksDroppedIfAllHadThem() {
        CHECKS.sentence("Terms", "Marks that stand are dropped, if what the station knows of all stations covers them.");
        FolderRounds x = markBroughtTo(2, 0, 3, 1);
        CHECKS.due("marks at the last, dropped as it had it", x.marks(1), 0);
        CHECKS.rowLength(x, 0, 0);
        for (int s : new int[] {2, 0, 3}) {
            CHECKS.due("marks at " + s + " before it knows", x.marks(s), 1);
            CHECKS.due("loaded at " + s, x.visit(0, s, 15), 0);
            CHECKS.due("marks at " + s + ", dropped by what the table says", x.marks(s), 0);
            CHECKS.known(x, s, s, 4, 0, 0, 1, 0);
        }
    }

    private static void marksStayIfOneLacksThem() {
        for (int lacking = 0; lacking < 4; lacking++) {
            int a = (lacking + 1) % 4;
            int b = (lacking + 2) % 4;
            int c = (lacking + 3) % 4;
            FolderRounds x = markBroughtTo(a, b, c, a, b, c);
            CHECKS.due("marks at " + a + ", " + lacking + " lacks it", x.marks(a), 1);
            CHECKS.due("marks at " + b + ", " + lacking + " lacks it", x.marks(b), 1);
            CHECKS.due("marks at " + c + ", " + lacking + " lacks it", x.marks(c), 1);
            CHECKS.due("loaded at " + a + " for " + lacking, x.visit(0, a, 1 << lacking), 1);
            CHECKS.due("loaded at " + a + " for " + b, x.visit(0, a, 1 << b), 0);
        }
    }

    /** What is known may cover the mark by a version that came behind it. */
    private static void marksDroppedIfLaterOnesAreKnown() {
        FolderRounds x = markBroughtTo(0, 1, 2);
        x.visit(0, 3, 0);
        x.edit(3, 4, 7, 7);
        x.visit(1, 3, 0);
        CHECKS.due("marks at 0 before", x.marks(0), 1);
        x.visit(1, 0, 0);
        CHECKS.due("marks at 0", x.marks(0), 0);
        CHECKS.due("siblings at 0: the later one did not come", x.siblings(0, 4), 0);
        x.visit(1, 3, 1);
        x.visit(1, 0, 0);
        CHECKS.due("siblings at 0: now it did", x.siblings(0, 4), 1);
    }

    private static void onlyMarksAreDropped() {
        FolderRounds x = new FolderRounds();
        x.edit(0, 4, 0, 0);
        x.edit(0, 5, 6, 6);
        for (int i = 0; i < 8; i++) {
            x.visit(0, i % 4, 15);
        }
        for (int s = 0; s < 4; s++) {
            CHECKS.due("siblings of no bytes at " + s, x.siblings(s, 4), 1);
            CHECKS.due("siblings at " + s, x.siblings(s, 5), 1);
        }
    }

    /** Of two marks of one document side by side, the one goes that all had. */
    private static void eachMarkForItself() {
        FolderRounds x = markBroughtTo(0, 1, 2);
        x.erase(3, 4);
        x.erase(3, 9);
        x.visit(0, 3, 0);
        CHECKS.due("marks at 3: two of its own", x.marks(3), 2);
        x.visit(0, 0, 0);
        CHECKS.due("marks at 0", x.marks(0), 0);
        x.visit(0, 3, 7);
        CHECKS.rowLength(x, 0, 2);
        CHECKS.item(x, 0, 0, 4, -1, 0, 0, 0, 1);
        CHECKS.item(x, 0, 1, 9, -1, 0, 0, 0, 1);
    }

    private static void manyMarksAtOnce() {
        FolderRounds x = new FolderRounds();
        for (int d = 0; d < 10; d++) {
            x.erase(1, d);
        }
        for (int s = 1; s < 5; s++) {
            CHECKS.due("marks before the last had them", x.marks(1), 10);
            x.visit(0, s % 4, 15);
        }
        CHECKS.due("marks at the last", x.marks(0), 0);
        x.visit(0, 1, 15);
        CHECKS.due("marks at the first", x.marks(1), 0);
    }

    private static void rowAndTableBecomeEmpty() {
        CHECKS.sentence("Terms", "LOADING: the row and the table become empty");
        FolderRounds x = new FolderRounds();
        x.edit(0, 0, 40, 0);
        x.edit(0, 1, 40, 0);
        CHECKS.due("loaded", x.visit(0, 0, 2), 2);
        CHECKS.due("loaded once more", x.visit(0, 0, 2), 2);
        CHECKS.rowLength(x, 0, 2);
        CHECKS.due("room", x.room(0), 4);
        CHECKS.due("loaded for nobody", x.visit(0, 0, 0), 0);
        CHECKS.rowLength(x, 0, 0);
        CHECKS.due("room", x.room(0), 100);
    }

    private static void tableIsWhatTheStationKnows() {
        CHECKS.sentence("Terms", "then the table is what the station knows");
        FolderRounds x = new FolderRounds();
        x.edit(0, 0, 1, 1);
        x.edit(1, 0, 1, 1);
        x.visit(0, 0, 2);
        x.visit(0, 1, 0);
        x.visit(0, 3, 0);
        for (int other = 0; other < 3; other++) {
            for (int j = 0; j < 4; j++) {
                CHECKS.due("known of " + other, x.known(3, other, 0, j), x.known(1, other, 0, j));
            }
        }
        CHECKS.known(x, 3, 1, 0, 1, 1, 0, 0);
        // What the station comes to know later is not on the table.
        x.visit(1, 2, 0);
        x.edit(2, 5, 1, 1);
        x.visit(1, 3, 0);
        CHECKS.known(x, 3, 2, 5, 0, 0, 0, 0);
    }

    private static void loadedIfADestinationLacksThem() {
        CHECKS.sentence("Terms", "those that a destination but the station lacks (what the station knows of it does not cover them) are loaded");
        FolderRounds x = new FolderRounds();
        x.edit(1, 6, 3, 3);
        x.visit(0, 1, 8);
        x.visit(0, 3, 0);
        for (int destinations = 0; destinations < 16; destinations++) {
            boolean lacked = (destinations & (1 << 0 | 1 << 2)) != 0;
            FolderRounds y = new FolderRounds();
            y.edit(1, 6, 3, 3);
            y.visit(0, 1, 8);
            y.visit(0, 3, 0);
            CHECKS.due("loaded at 3 for " + destinations, y.visit(0, 3, destinations), lacked ? 1 : 0);
        }
        // Covered by more than the version itself is not lacked, either.
        x.edit(3, 6, 4, 4);
        x.visit(0, 3, 2);
        x.copy(0, 1);
        x.visit(0, 1, 0);
        x.edit(1, 6, 5, 5);
        x.visit(2, 1, 0);
        x.visit(2, 3, 0);
        CHECKS.due("loaded at 3 for 1", x.visit(2, 3, 2), 0);
    }

    private static void leastSumFirst() {
        CHECKS.sentence("Terms", "with the least sum of counters first");
        FolderRounds x = new FolderRounds();
        for (int d = 0; d < 5; d++) {
            for (int i = 0; i < 5 - d; i++) {
                x.edit(0, d, d, 0);
            }
        }
        CHECKS.due("loaded", x.visit(0, 0, 2), 5);
        for (int k = 0; k < 5; k++) {
            CHECKS.item(x, 0, k, 4 - k, 4 - k, k + 1, 0, 0, 0);
        }
    }

    private static void leastSumOverAllCounters() {
        for (int s = 0; s < 4; s++) {
            int other = (s + 1) % 4;
            FolderRounds x = new FolderRounds();
            x.edit(s, 0, 1, 0);
            x.edit(s, 0, 1, 0);
            x.visit(0, s, 15);
            x.visit(0, other, 0);
            x.edit(other, 0, 2, 0);
            x.edit(other, 1, 3, 0);
            x.edit(other, 1, 3, 0);
            x.edit(other, 2, 4, 0);
            CHECKS.due("loaded", x.visit(0, other, 15), 3);
            CHECKS.due("the first, of sum 1", x.item(0, 0, 0), 2);
            CHECKS.due("the second, of sum 2", x.item(0, 1, 0), 1);
            CHECKS.due("the last, of sum 2 + 1", x.item(0, 2, 0), 0);
        }
    }

    private static void leastSumBeyond255() {
        FolderRounds x = new FolderRounds();
        for (int i = 0; i < 200; i++) {
            x.edit(0, 0, 1, 0);
        }
        x.visit(0, 0, 2);
        x.visit(0, 1, 0);
        for (int i = 0; i < 56; i++) {
            x.edit(1, 0, 2, 0);
        }
        x.edit(1, 9, 3, 0);
        CHECKS.due("loaded", x.visit(0, 1, 4), 2);
        CHECKS.item(x, 0, 0, 9, 3, 0, 1, 0, 0);
        CHECKS.item(x, 0, 1, 0, 2, 200, 56, 0, 0);
    }

    private static void thenByDocument() {
        CHECKS.sentence("Terms", "then by document");
        FolderRounds x = new FolderRounds();
        for (int d = 9; d >= 0; d--) {
            if (d % 2 == 0) {
                x.erase(0, d);
            } else {
                x.edit(0, d, 0, 0);
            }
        }
        CHECKS.due("loaded", x.visit(0, 0, 2), 10);
        for (int k = 0; k < 10; k++) {
            CHECKS.item(x, 0, k, k, k % 2 == 0 ? -1 : 0, 1, 0, 0, 0);
        }
    }

    private static void thenInOrder() {
        CHECKS.sentence("Terms", "then in order");
        FolderRounds x = new FolderRounds();
        x.edit(1, 5, 10, 0);
        x.erase(2, 5);
        x.edit(0, 5, 30, 0);
        x.visit(0, 1, 1);
        x.visit(0, 0, 0);
        x.visit(0, 2, 1);
        CHECKS.due("loaded", x.visit(0, 0, 8), 3);
        CHECKS.item(x, 0, 0, 5, -1, 0, 0, 1, 0);
        CHECKS.item(x, 0, 1, 5, 10, 0, 1, 0, 0);
        CHECKS.item(x, 0, 2, 5, 30, 1, 0, 0, 0);
    }

    private static void noRoomIsPassed() {
        CHECKS.sentence("Terms", "one for which there is no room is passed");
        FolderRounds x = new FolderRounds();
        x.edit(0, 0, 40, 0);
        x.edit(0, 1, 40, 0);
        x.edit(0, 2, 0, 0);
        CHECKS.due("loaded: the third has no room, too", x.visit(0, 0, 2), 2);
        x.edit(0, 1, 30, 0);
        x.edit(0, 3, 37, 0);
        x.edit(0, 4, 30, 0);
        x.lose(0);
        CHECKS.due("loaded", x.visit(0, 0, 2), 3);
        CHECKS.item(x, 0, 0, 0, 40, 1, 0, 0, 0);
        CHECKS.item(x, 0, 1, 2, 0, 1, 0, 0, 0);
        CHECKS.item(x, 0, 2, 4, 30, 1, 0, 0, 0);
        CHECKS.due("room", x.room(0), 6);
        CHECKS.due("siblings: the one passed stands on", x.siblings(0, 3), 1);
    }

    /** As many go and are loaded as a cartridge can hold: twelve marks each. */
    private static void wholeVisitHasNoEndBefore() {
        FolderRounds x = new FolderRounds();
        for (int d = 0; d < 10; d++) {
            x.erase(0, d);
            x.erase(1, d);
        }
        CHECKS.due("loaded at 0", x.visit(0, 0, 2), 10);
        CHECKS.due("loaded at 1", x.visit(0, 1, 4), 12);
        for (int d = 0; d < 10; d++) {
            x.erase(2, d);
        }
        CHECKS.due("loaded at 2, where twelve went", x.visit(0, 2, 8), 12);
        CHECKS.due("marks at 2", x.marks(2), 22);
    }

    /**
     * Cartridge 0 is to come to station 1 with three versions: of the first nothing comes, the second
     * is left out, the third comes to stand. Then there are three to be loaded for station 2.
     */
    private static void threeAndThree(FolderRounds x) {
        x.edit(0, 0, 0, 0);
        x.visit(1, 0, 2);
        x.visit(1, 1, 0);
        x.edit(0, 1, 21, 0);
        x.edit(0, 2, 20, 0);
        x.visit(0, 0, 2);
        fill(x, 1, 280);
    }

    private static FolderRounds cutAfter(int n) {
        FolderRounds x = new FolderRounds();
        threeAndThree(x);
        x.cut(0, 1, 4, n);
        return x;
    }

    private static void cutAfterEachNumber() {
        CHECKS.sentence("Terms", "as soon as n versions went from the cartridge or were loaded (both counted), and another one would, it is over");
        for (int n : new int[] {0, 1, 2, 3, 4, 5, 6, 7, 8, 1000000, 1000001, Integer.MAX_VALUE}) {
            FolderRounds x = new FolderRounds();
            threeAndThree(x);
            int went = Math.min(n, 3);
            int loaded = Math.min(n - went, 3);
            CHECKS.due("cut after " + n, x.cut(0, 1, 4, n), loaded);
            CHECKS.rowLength(x, 0, 3 - went + loaded);
            CHECKS.due("leftOut, cut after " + n, x.leftOut(), n < 2 ? 0 : 1);
            CHECKS.due("siblings, cut after " + n, x.siblings(1, 2), n < 3 ? 0 : 1);
        }
    }

    private static void cutOnlyIfAnotherOneWould() {
        CHECKS.sentence("Terms", "(if none would, all is done)");
        FolderRounds x = markBroughtTo(0, 1, 2, 3);
        CHECKS.due("cut after 0 at 0", x.cut(0, 0, 15, 0), 0);
        CHECKS.due("marks at 0: nothing was to go or to be loaded", x.marks(0), 0);
        String whole = Picture.of(y -> {
            threeAndThree(y);
            y.visit(0, 1, 4);
        });
        for (int n = 5; n < 8; n++) {
            int after = n;
            String then = Picture.of(y -> {
                threeAndThree(y);
                y.cut(0, 1, 4, after);
            });
            CHECKS.due("cut after " + n + " of 6 does all", then.equals(whole), n >= 6);
        }
        // Those that are passed are none that would be loaded.
        FolderRounds z = new FolderRounds();
        fill(z, 0, 280);
        CHECKS.due("cut after the two for which there is room", z.cut(0, 0, 2, 2), 2);
        CHECKS.due("room", z.room(0), 4);
    }

    private static void cutWhileUnloadingKeepsTheRest() {
        CHECKS.sentence("Terms", "(a cartridge that was not yet unloaded keeps the versions that are left, and its table)");
        FolderRounds x = cutAfter(2);
        CHECKS.item(x, 0, 0, 2, 20, 1, 0, 0, 0);
        CHECKS.due("room", x.room(0), 72);
        x.copy(0, 1);
        x.visit(1, 3, 0);
        CHECKS.known(x, 3, 0, 1, 1, 0, 0, 0);
        CHECKS.known(x, 3, 1, 3, 0, 0, 0, 0);
        CHECKS.due("siblings at 3", x.siblings(3, 2), 1);
        CHECKS.due("loaded when the visit is made again", x.visit(0, 1, 4), 3);
        CHECKS.due("siblings at 1", x.siblings(1, 2), 1);
        CHECKS.known(x, 1, 0, 1, 1, 0, 0, 0);
        FolderRounds y = cutAfter(0);
        CHECKS.item(y, 0, 0, 0, 0, 1, 0, 0, 0);
        CHECKS.item(y, 0, 1, 1, 21, 1, 0, 0, 0);
        CHECKS.item(y, 0, 2, 2, 20, 1, 0, 0, 0);
    }

    private static void cutWhileUnloadingTeachesNothing() {
        CHECKS.sentence("Terms", "what would come next is not done");
        FolderRounds x = cutAfter(2);
        CHECKS.known(x, 1, 0, 0, 1, 0, 0, 0);
        CHECKS.known(x, 1, 0, 1, 0, 0, 0, 0);
        CHECKS.known(x, 1, 0, 2, 0, 0, 0, 0);
        // All had the mark; station 1 does not learn it while a version is left on the cartridge.
        FolderRounds y = markBroughtTo(1, 0, 2, 3);
        y.edit(3, 0, 1, 1);
        CHECKS.due("loaded", y.visit(0, 3, 2), 1);
        CHECKS.due("cut after 0", y.cut(0, 1, 15, 0), 0);
        CHECKS.due("marks at 1", y.marks(1), 1);
        CHECKS.known(y, 1, 3, 4, 0, 0, 0, 0);
        CHECKS.due("cut after 1", y.cut(0, 1, 15, 1), 0);
        CHECKS.due("marks at 1, unloaded", y.marks(1), 0);
    }

    /** Station 1 knows already that all others had the mark when the mark itself comes. */
    private static void cutWhileUnloadingDropsNoMark() {
        FolderRounds x = markBroughtTo(0, 2, 3);
        x.visit(1, 3, 0);
        x.visit(1, 1, 0);
        x.edit(0, 9, 1, 1);
        x.lose(0);
        CHECKS.due("loaded", x.visit(0, 0, 2), 2);
        x.cut(0, 1, 0, 1);
        CHECKS.rowLength(x, 0, 1);
        CHECKS.due("marks, a version is left on the cartridge", x.marks(1), 1);
        x.visit(0, 1, 0);
        CHECKS.due("marks, all is done", x.marks(1), 0);
    }

    private static void cutWhileLoadingHasTheNewTable() {
        CHECKS.sentence("Terms", "(while loading the table is new already, and what was loaded stays there)");
        for (int n = 3; n < 6; n++) {
            FolderRounds x = cutAfter(n);
            CHECKS.rowLength(x, 0, n - 3);
            if (n > 3) {
                CHECKS.item(x, 0, 0, 0, 0, 1, 0, 0, 0);
            }
            if (n > 4) {
                CHECKS.item(x, 0, 1, 2, 20, 1, 0, 0, 0);
            }
            CHECKS.known(x, 1, 0, 2, 1, 0, 0, 0);
            x.visit(0, 3, 0);
            CHECKS.known(x, 3, 1, 3, 0, 1, 0, 0);
            CHECKS.known(x, 3, 1, 2, 1, 0, 0, 0);
            CHECKS.known(x, 3, 1, 1, 0, 0, 0, 0);
            CHECKS.known(x, 3, 0, 1, 1, 0, 0, 0);
        }
    }

    /** Nothing was to be unloaded, so it is while loading that the visit is over. */
    private static void cutOfAnEmptyCartridge() {
        FolderRounds x = new FolderRounds();
        x.edit(0, 0, 1, 1);
        CHECKS.due("cut after 0", x.cut(0, 0, 2, 0), 0);
        CHECKS.rowLength(x, 0, 0);
        x.visit(0, 1, 0);
        CHECKS.known(x, 1, 0, 0, 1, 0, 0, 0);
        CHECKS.due("siblings", x.siblings(1, 0), 0);
    }
}
