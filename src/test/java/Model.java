import java.util.ArrayList;
import java.util.Comparator;
import java.util.List;
import java.util.NoSuchElementException;
import java.util.TreeMap;

/** The document's words once more, as plainly as the Java library lets them be said. */
final class Model {
    /** length is -1 of a mark. */
    record V(int document, List<Integer> vector, int length, int fill) {
        int bytes() {
            return Math.max(0, length);
        }
    }

    private static final List<Integer> ZEROS = List.of(0, 0, 0, 0);
    private static final Comparator<V> ORDER = Comparator.<V>comparingInt(v -> v.vector().get(0))
            .thenComparingInt(v -> v.vector().get(1))
            .thenComparingInt(v -> v.vector().get(2))
            .thenComparingInt(v -> v.vector().get(3));
    private static final Comparator<V> LOADING = Comparator.<V>comparingInt(v -> sum(v.vector()))
            .thenComparingInt(V::document).thenComparing(ORDER);

    private final List<List<V>> stands = new ArrayList<>();
    private final List<TreeMap<Integer, List<Integer>>> knows = new ArrayList<>();
    private final List<List<V>> rows = new ArrayList<>();
    private final List<TreeMap<Integer, List<Integer>>> tables = new ArrayList<>();
    private int leftOut = 0;

    Model() {
        for (int s = 0; s < 4; s++) {
            stands.add(new ArrayList<>());
            knows.add(new TreeMap<>());
        }
        for (int c = 0; c < 3; c++) {
            rows.add(new ArrayList<>());
            tables.add(new TreeMap<>());
        }
    }

    private static int sum(List<Integer> vector) {
        return vector.stream().mapToInt(Integer::intValue).sum();
    }

    private static boolean covers(List<Integer> a, List<Integer> b) {
        return a.get(0) >= b.get(0) && a.get(1) >= b.get(1) && a.get(2) >= b.get(2) && a.get(3) >= b.get(3);
    }

    private static List<Integer> join(List<Integer> a, List<Integer> b) {
        return List.of(Math.max(a.get(0), b.get(0)), Math.max(a.get(1), b.get(1)),
                Math.max(a.get(2), b.get(2)), Math.max(a.get(3), b.get(3)));
    }

    private List<Integer> vector(TreeMap<Integer, List<Integer>> of, int station, int document) {
        return of.getOrDefault(station * 100 + document, ZEROS);
    }

    private static void need(boolean there) {
        if (!there) {
            throw new NoSuchElementException();
        }
    }

    private static void needStation(int s) {
        need(s >= 0 && s <= 3);
    }

    private static void needDocument(int d) {
        need(d >= 0 && d <= 9);
    }

    private static void needCartridge(int c) {
        need(c >= 0 && c <= 2);
    }

    private static void needIndex(boolean there) {
        if (!there) {
            throw new IndexOutOfBoundsException();
        }
    }

    int edit(int s, int d, int length, int fill) {
        needStation(s);
        needDocument(d);
        if (length < 0 || length > 40 || fill < 0 || fill > 255) {
            throw new IllegalArgumentException();
        }
        return make(s, d, length, fill);
    }

    int erase(int s, int d) {
        needStation(s);
        needDocument(d);
        return make(s, d, -1, 0);
    }

    private int make(int s, int d, int length, int fill) {
        List<Integer> next = new ArrayList<>(vector(knows.get(s), s, d));
        if (next.get(s) == 200) {
            throw new UnsupportedOperationException();
        }
        next.set(s, next.get(s) + 1);
        if (!comesToStand(s, new V(d, List.copyOf(next), length, fill))) {
            throw new UnsupportedOperationException();
        }
        return 0;
    }

    /** False if it is left out. */
    private boolean comesToStand(int s, V v) {
        List<Integer> own = vector(knows.get(s), s, v.document());
        if (covers(own, v.vector())) {
            return true;
        }
        List<V> then = new ArrayList<>(stands.get(s));
        then.removeIf(o -> o.document() == v.document() && covers(v.vector(), o.vector()));
        then.add(v);
        if (then.stream().mapToInt(V::bytes).sum() > 300) {
            return false;
        }
        stands.set(s, then);
        knows.get(s).put(s * 100 + v.document(), join(own, v.vector()));
        return true;
    }

    private List<V> withBytes(int s, int d) {
        return stands.get(s).stream().filter(v -> v.document() == d && v.length() >= 0).sorted(ORDER).toList();
    }

    int siblings(int s, int d) {
        needStation(s);
        needDocument(d);
        return withBytes(s, d).size();
    }

    private V sibling(int s, int d, int k) {
        need(k >= 0 && k < siblings(s, d));
        return withBytes(s, d).get(k);
    }

    int counter(int s, int d, int k, int j) {
        needStation(s);
        needDocument(d);
        V v = sibling(s, d, k);
        needIndex(j >= 0 && j <= 3);
        return v.vector().get(j);
    }

    int byteOf(int s, int d, int k, int i) {
        needStation(s);
        needDocument(d);
        V v = sibling(s, d, k);
        needIndex(i >= -1 && i < v.length());
        return i == -1 ? v.length() : (v.fill() + i) % 256;
    }

    int visit(int c, int s, int destinations) {
        needCartridge(c);
        needStation(s);
        return rounds(c, s, destinations, Long.MAX_VALUE);
    }

    int cut(int c, int s, int destinations, int n) {
        needCartridge(c);
        needStation(s);
        if (n < 0) {
            throw new IllegalArgumentException();
        }
        return rounds(c, s, destinations, n);
    }

    private int rounds(int c, int s, int destinations, long n) {
        long moved = 0;
        while (!rows.get(c).isEmpty()) {
            if (moved == n) {
                return 0;
            }
            moved++;
            if (!comesToStand(s, rows.get(c).remove(0))) {
                leftOut++;
            }
        }
        TreeMap<Integer, List<Integer>> known = knows.get(s);
        for (int o = 0; o < 4; o++) {
            for (int d = 0; d < 10; d++) {
                if (o != s) {
                    known.put(o * 100 + d, join(vector(known, o, d), vector(tables.get(c), o, d)));
                }
            }
        }
        stands.get(s).removeIf(v -> v.length() == -1 && lackedBy(s, v, 15).isEmpty());
        tables.set(c, new TreeMap<>(known));
        int room = 100;
        int loaded = 0;
        for (V v : stands.get(s).stream().sorted(LOADING).toList()) {
            if (lackedBy(s, v, destinations & ~(1 << s)).isEmpty() || 8 + v.bytes() > room) {
                continue;
            }
            if (moved == n) {
                return loaded;
            }
            moved++;
            loaded++;
            room -= 8 + v.bytes();
            rows.get(c).add(v);
        }
        return loaded;
    }

    private List<Integer> lackedBy(int s, V v, int asked) {
        List<Integer> found = new ArrayList<>();
        for (int o = 0; o < 4; o++) {
            if ((asked & 1 << o) != 0 && !covers(vector(knows.get(s), o, v.document()), v.vector())) {
                found.add(o);
            }
        }
        return found;
    }

    int lose(int c) {
        needCartridge(c);
        int had = rows.get(c).size();
        rows.set(c, new ArrayList<>());
        tables.set(c, new TreeMap<>());
        return had;
    }

    int copy(int from, int to) {
        needCartridge(from);
        needCartridge(to);
        rows.set(to, new ArrayList<>(rows.get(from)));
        tables.set(to, new TreeMap<>(tables.get(from)));
        return 0;
    }

    int known(int s, int o, int d, int j) {
        needStation(s);
        needStation(o);
        needDocument(d);
        needIndex(j >= 0 && j <= 3);
        return vector(knows.get(s), o, d).get(j);
    }

    int marks(int s) {
        needStation(s);
        return (int) stands.get(s).stream().filter(v -> v.length() == -1).count();
    }

    int bytes(int s) {
        needStation(s);
        return stands.get(s).stream().mapToInt(V::bytes).sum();
    }

    int same(int a, int b) {
        needStation(a);
        needStation(b);
        for (int d = 0; d < 10; d++) {
            // Bytes are compared as well: this shows that vectors alone tell versions apart.
            if (!withBytes(a, d).equals(withBytes(b, d))) {
                return 0;
            }
        }
        return 1;
    }

    int room(int c) {
        needCartridge(c);
        return 100 - rows.get(c).stream().mapToInt(v -> 8 + v.bytes()).sum();
    }

    int item(int c, int k, int what) {
        needCartridge(c);
        need(k >= 0 && k < rows.get(c).size());
        needIndex(what >= 0 && what <= 5);
        V v = rows.get(c).get(k);
        return what == 0 ? v.document() : what == 1 ? v.length() : v.vector().get(what - 2);
    }

    int leftOut() {
        return leftOut;
    }
}
