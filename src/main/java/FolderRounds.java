import java.util.ArrayList;
import java.util.Arrays;
import java.util.NoSuchElementException;

/**
 * Stations without any wire that keep the same documents, and the cartridges that carry versions
 * between them.
 */
public final class FolderRounds {
    private static final int STATIONS = 4;
    private static final int DOCUMENTS = 10;
    private static final int CARTRIDGES = 3;

    private static final int MOST_IN_COUNTER = 200;
    private static final int MOST_LENGTH = 40;
    private static final int MOST_FILL = 255;
    private static final int BYTE_VALUES = 256;
    private static final int MOST_BYTES = 300;

    private static final int CARTRIDGE_ROOM = 100;
    private static final int ROOM_OF_VERSION = 8;

    private static final int LENGTH_OF_MARK = -1;
    private static final int ASKS_LENGTH = -1;

    private static final int ITEM_DOCUMENT = 0;
    private static final int ITEM_LENGTH = 1;
    private static final int ITEM_FIRST_COUNTER = 2;

    /** Far above the versions that one visit can move, so that it is never cut. */
    private static final int NEVER_CUT = 1000000;

    private final Station[] stations;
    private final Cartridge[] cartridges;
    private int leftOutSoFar;

    public FolderRounds() {
        stations = new Station[STATIONS];
        for (int s = 0; s < STATIONS; s++) {
            stations[s] = new Station(s);
        }
        cartridges = new Cartridge[CARTRIDGES];
        for (int c = 0; c < CARTRIDGES; c++) {
            cartridges[c] = new Cartridge();
        }
        leftOutSoFar = 0;
    }

    public void edit(int station, int document, int length, int fill)
            throws NoSuchElementException, IllegalArgumentException, UnsupportedOperationException {
        requireStation(station);
        requireDocument(document);
        if (length < 0 || length > MOST_LENGTH || fill < 0 || fill > MOST_FILL) {
            throw new IllegalArgumentException();
        }
        makeVersion(stations[station], document, length, fill);
    }

    public void erase(int station, int document)
            throws NoSuchElementException, UnsupportedOperationException {
        requireStation(station);
        requireDocument(document);
        makeVersion(stations[station], document, LENGTH_OF_MARK, 0);
    }

    public int siblings(int station, int document)
            throws NoSuchElementException {
        requireStation(station);
        requireDocument(document);
        return stations[station].countWithBytes(document);
    }

    public int counter(int station, int document, int k, int j)
            throws NoSuchElementException, IndexOutOfBoundsException {
        Version version = requireSibling(station, document, k);
        requireCounterIndex(j);
        return version.counterAt(j);
    }

    public int byteOf(int station, int document, int k, int i)
            throws NoSuchElementException, IndexOutOfBoundsException {
        Version version = requireSibling(station, document, k);
        if (i < ASKS_LENGTH || i >= version.length) {
            throw new IndexOutOfBoundsException();
        }
        return i == ASKS_LENGTH ? version.length : version.byteAt(i);
    }

    public int visit(int cartridge, int station, int destinations)
            throws NoSuchElementException {
        requireCartridge(cartridge);
        requireStation(station);
        return carryOutVisit(cartridges[cartridge], stations[station], destinations, NEVER_CUT);
    }

    public int cut(int cartridge, int station, int destinations, int n)
            throws NoSuchElementException, IllegalArgumentException {
        requireCartridge(cartridge);
        requireStation(station);
        if (n < 0) {
            throw new IllegalArgumentException();
        }
        return carryOutVisit(cartridges[cartridge], stations[station], destinations, n);
    }

    public int lose(int cartridge)
            throws NoSuchElementException {
        requireCartridge(cartridge);
        int had = cartridges[cartridge].row.size();
        cartridges[cartridge].becomeEmpty();
        return had;
    }

    public void copy(int from, int to)
            throws NoSuchElementException {
        requireCartridge(from);
        requireCartridge(to);
        // A cartridge that is emptied first could not be copied onto itself.
        if (from != to) {
            cartridges[to].becomeLike(cartridges[from]);
        }
    }

    public int known(int station, int other, int document, int j)
            throws NoSuchElementException, IndexOutOfBoundsException {
        requireStation(station);
        requireStation(other);
        requireDocument(document);
        requireCounterIndex(j);
        return stations[station].knowledge.counterAt(other, document, j);
    }

    public int marks(int station)
            throws NoSuchElementException {
        requireStation(station);
        return stations[station].countMarks();
    }

    public int bytes(int station)
            throws NoSuchElementException {
        requireStation(station);
        return stations[station].countBytes();
    }

    public boolean same(int a, int b)
            throws NoSuchElementException {
        requireStation(a);
        requireStation(b);
        return stations[a].holdsBytesOf(stations[b]) && stations[b].holdsBytesOf(stations[a]);
    }

    public int room(int cartridge)
            throws NoSuchElementException {
        requireCartridge(cartridge);
        return cartridges[cartridge].roomLeft();
    }

    public int item(int cartridge, int k, int what)
            throws NoSuchElementException, IndexOutOfBoundsException {
        requireCartridge(cartridge);
        ArrayList<Version> row = cartridges[cartridge].row;
        if (k < 0 || k >= row.size()) {
            throw new NoSuchElementException();
        }
        if (what < ITEM_DOCUMENT || what >= ITEM_FIRST_COUNTER + STATIONS) {
            throw new IndexOutOfBoundsException();
        }
        Version version = row.get(k);
        if (what == ITEM_DOCUMENT) {
            return version.document;
        }
        return what == ITEM_LENGTH ? version.length : version.counterAt(what - ITEM_FIRST_COUNTER);
    }

    public int leftOut() {
        return leftOutSoFar;
    }

    private static void requireStation(int station) {
        if (station < 0 || station >= STATIONS) {
            throw new NoSuchElementException();
        }
    }

    private static void requireDocument(int document) {
        if (document < 0 || document >= DOCUMENTS) {
            throw new NoSuchElementException();
        }
    }

    private static void requireCartridge(int cartridge) {
        if (cartridge < 0 || cartridge >= CARTRIDGES) {
            throw new NoSuchElementException();
        }
    }

    private static void requireCounterIndex(int j) {
        if (j < 0 || j >= STATIONS) {
            throw new IndexOutOfBoundsException();
        }
    }

    private Version requireSibling(int station, int document, int k) {
        requireStation(station);
        requireDocument(document);
        Version version = stations[station].findWithBytes(document, k);
        if (version == null) {
            throw new NoSuchElementException();
        }
        return version;
    }

    private static void makeVersion(Station station, int document, int length, int fill) {
        if (station.ownCounter(document) >= MOST_IN_COUNTER) {
            throw new UnsupportedOperationException();
        }
        Version version = station.nextVersion(document, length, fill);
        // A version that its maker cannot hold is refused here; only carried ones are left out.
        if (!station.hasBytesFor(version)) {
            throw new UnsupportedOperationException();
        }
        station.putUp(version);
    }

    /** Answers how many versions were loaded before the visit was done or over. */
    private int carryOutVisit(Cartridge cartridge, Station station, int destinations, int n) {
        int gone = unload(cartridge, station, n);
        if (!cartridge.row.isEmpty()) {
            return 0;
        }
        station.learn(cartridge.table);
        station.dropMarksThatAllHad();
        // The row is empty by now, and every vector of the old table is written over.
        cartridge.table.becomeLike(station.knowledge);
        station.gatherLacked(destinations);
        return cartridge.loadFrom(station.lacked, n - gone);
    }

    /** Answers how many versions went from the cartridge, at most n. */
    private int unload(Cartridge cartridge, Station station, int n) {
        int going = Math.min(n, cartridge.row.size());
        for (int i = 0; i < going; i++) {
            receive(station, cartridge.row.remove(0));
        }
        return going;
    }

    private void receive(Station station, Version version) {
        if (station.hasHad(version)) {
            return;
        }
        if (station.hasBytesFor(version)) {
            station.putUp(version);
        } else {
            leftOutSoFar++;
        }
    }

    /** Never changes after it was made, so stations and cartridges may hold the same one. */
    private static final class Version {
        final int document;
        final int length;
        private final int fill;
        private final int[] counters;

        Version(int document, int length, int fill, int[] counters) {
            this.document = document;
            this.length = length;
            this.fill = fill;
            this.counters = counters;
        }

        boolean isMark() {
            return length == LENGTH_OF_MARK;
        }

        int byteCount() {
            return isMark() ? 0 : length;
        }

        int roomTaken() {
            return ROOM_OF_VERSION + byteCount();
        }

        int byteAt(int i) {
            return (fill + i) % BYTE_VALUES;
        }

        int counterAt(int j) {
            return counters[j];
        }

        int counterSum() {
            int sum = 0;
            for (int j = 0; j < STATIONS; j++) {
                sum += counters[j];
            }
            return sum;
        }

        boolean replaces(Version other) {
            if (document != other.document) {
                return false;
            }
            for (int j = 0; j < STATIONS; j++) {
                if (counters[j] < other.counters[j]) {
                    return false;
                }
            }
            return true;
        }

        /** Below 0 if this one comes before the other, by document and then in order; 0 if none does. */
        int orderAgainst(Version other) {
            int difference = document - other.document;
            for (int j = 0; j < STATIONS && difference == 0; j++) {
                difference = counters[j] - other.counters[j];
            }
            return difference;
        }
    }

    /** A vector for each station and document: what a station knows, or a cartridge's table. */
    private static final class Knowledge {
        private final int[] counters;

        Knowledge() {
            counters = new int[STATIONS * DOCUMENTS * STATIONS];
        }

        private static int start(int station, int document) {
            return (station * DOCUMENTS + document) * STATIONS;
        }

        int counterAt(int station, int document, int j) {
            return counters[start(station, document) + j];
        }

        int[] vectorOf(int station, int document) {
            int from = start(station, document);
            return Arrays.copyOfRange(counters, from, from + STATIONS);
        }

        boolean covers(int station, Version version) {
            int from = start(station, version.document);
            for (int j = 0; j < STATIONS; j++) {
                if (counters[from + j] < version.counterAt(j)) {
                    return false;
                }
            }
            return true;
        }

        void joinVersion(int station, Version version) {
            int from = start(station, version.document);
            for (int j = 0; j < STATIONS; j++) {
                counters[from + j] = Math.max(counters[from + j], version.counterAt(j));
            }
        }

        void joinOfStation(int station, Knowledge other) {
            int end = start(station + 1, 0);
            for (int i = start(station, 0); i < end; i++) {
                counters[i] = Math.max(counters[i], other.counters[i]);
            }
        }

        void becomeLike(Knowledge other) {
            System.arraycopy(other.counters, 0, counters, 0, counters.length);
        }

        void becomeZeros() {
            Arrays.fill(counters, 0);
        }
    }

    private static final class Station {
        private final int number;
        final Knowledge knowledge;
        /** By document, then in order. */
        private final ArrayList<Version> standing;
        /** Used again by every visit: what it would load, the first to be loaded first. */
        final ArrayList<Version> lacked;

        Station(int number) {
            this.number = number;
            knowledge = new Knowledge();
            standing = new ArrayList<>();
            lacked = new ArrayList<>();
        }

        int ownCounter(int document) {
            return knowledge.counterAt(number, document, number);
        }

        Version nextVersion(int document, int length, int fill) {
            int[] counters = knowledge.vectorOf(number, document);
            counters[number]++;
            return new Version(document, length, fill, counters);
        }

        boolean hasHad(Version version) {
            return knowledge.covers(number, version);
        }

        boolean hasBytesFor(Version version) {
            int sum = version.byteCount();
            for (int i = 0; i < standing.size(); i++) {
                Version other = standing.get(i);
                if (!version.replaces(other)) {
                    sum += other.byteCount();
                }
            }
            return sum <= MOST_BYTES;
        }

        void putUp(Version version) {
            for (int i = standing.size() - 1; i >= 0; i--) {
                if (version.replaces(standing.get(i))) {
                    standing.remove(i);
                }
            }
            int place = 0;
            while (place < standing.size() && standing.get(place).orderAgainst(version) < 0) {
                place++;
            }
            standing.add(place, version);
            knowledge.joinVersion(number, version);
        }

        void learn(Knowledge table) {
            for (int other = 0; other < STATIONS; other++) {
                // What a station had itself it knows best: no table adds to its own.
                if (other != number) {
                    knowledge.joinOfStation(other, table);
                }
            }
        }

        void dropMarksThatAllHad() {
            for (int i = standing.size() - 1; i >= 0; i--) {
                Version version = standing.get(i);
                if (version.isMark() && allHad(version)) {
                    standing.remove(i);
                }
            }
        }

        private boolean allHad(Version version) {
            for (int other = 0; other < STATIONS; other++) {
                if (!knowledge.covers(other, version)) {
                    return false;
                }
            }
            return true;
        }

        void gatherLacked(int destinations) {
            lacked.clear();
            for (int i = 0; i < standing.size(); i++) {
                Version version = standing.get(i);
                if (isLacked(version, destinations)) {
                    addBySum(version);
                }
            }
        }

        private boolean isLacked(Version version, int destinations) {
            for (int other = 0; other < STATIONS; other++) {
                boolean asked = other != number && ((destinations >> other) & 1) == 1;
                if (asked && !knowledge.covers(other, version)) {
                    return true;
                }
            }
            return false;
        }

        /** Behind those of the same sum, as what stands comes by document and in order already. */
        private void addBySum(Version version) {
            int sum = version.counterSum();
            int place = lacked.size();
            while (place > 0 && lacked.get(place - 1).counterSum() > sum) {
                place--;
            }
            lacked.add(place, version);
        }

        int countWithBytes(int document) {
            int count = 0;
            for (int i = 0; i < standing.size(); i++) {
                Version version = standing.get(i);
                if (version.document == document && !version.isMark()) {
                    count++;
                }
            }
            return count;
        }

        /** The k-th version with bytes of a document, or null if there is none. */
        Version findWithBytes(int document, int k) {
            int before = 0;
            for (int i = 0; i < standing.size(); i++) {
                Version version = standing.get(i);
                if (version.document == document && !version.isMark()) {
                    if (before == k) {
                        return version;
                    }
                    before++;
                }
            }
            return null;
        }

        int countMarks() {
            int count = 0;
            for (int i = 0; i < standing.size(); i++) {
                if (standing.get(i).isMark()) {
                    count++;
                }
            }
            return count;
        }

        int countBytes() {
            int sum = 0;
            for (int i = 0; i < standing.size(); i++) {
                sum += standing.get(i).byteCount();
            }
            return sum;
        }

        boolean holdsBytesOf(Station other) {
            for (int i = 0; i < other.standing.size(); i++) {
                Version version = other.standing.get(i);
                if (!version.isMark() && !holds(version)) {
                    return false;
                }
            }
            return true;
        }

        /** No two versions of a document have the same vector, so the vector tells which it is. */
        private boolean holds(Version version) {
            for (int i = 0; i < standing.size(); i++) {
                if (standing.get(i).orderAgainst(version) == 0) {
                    return true;
                }
            }
            return false;
        }
    }

    private static final class Cartridge {
        final ArrayList<Version> row;
        final Knowledge table;

        Cartridge() {
            row = new ArrayList<>();
            table = new Knowledge();
        }

        int roomLeft() {
            int left = CARTRIDGE_ROOM;
            for (int i = 0; i < row.size(); i++) {
                left -= row.get(i).roomTaken();
            }
            return left;
        }

        void becomeEmpty() {
            row.clear();
            table.becomeZeros();
        }

        void becomeLike(Cartridge other) {
            row.clear();
            for (int i = 0; i < other.row.size(); i++) {
                row.add(other.row.get(i));
            }
            table.becomeLike(other.table);
        }

        /** Answers how many of these versions were loaded, at most the given number. */
        int loadFrom(ArrayList<Version> versions, int most) {
            int loaded = 0;
            for (int i = 0; i < versions.size() && loaded < most; i++) {
                Version version = versions.get(i);
                if (version.roomTaken() <= roomLeft()) {
                    row.add(version);
                    loaded++;
                }
            }
            return loaded;
        }
    }
}
