import java.util.function.Consumer;
import java.util.function.IntSupplier;

/**
 * All that can be seen of an object after some calls. It is asked of several new objects that had
 * the same calls, so that none of them comes to more than 512 if the calls are at most 200.
 */
final class Picture {
    private final StringBuilder seen = new StringBuilder();

    private Picture() {
    }

    static String of(Consumer<FolderRounds> calls) {
        Picture picture = new Picture();
        for (int s = 0; s < 4; s++) {
            picture.addStation(made(calls), s);
        }
        picture.addCartridges(made(calls));
        // A cartridge's table is seen only by what a visit teaches a station.
        for (int c = 0; c < 3; c++) {
            for (int s = 0; s < 4; s++) {
                FolderRounds x = made(calls);
                int cartridge = c;
                int station = s;
                picture.add("visit " + c + " " + s, () -> x.visit(cartridge, station, 15));
                picture.addStation(x, s);
            }
        }
        return picture.seen.toString();
    }

    private static FolderRounds made(Consumer<FolderRounds> calls) {
        FolderRounds x = new FolderRounds();
        calls.accept(x);
        return x;
    }

    private void add(String name, IntSupplier call) {
        seen.append(name).append('=').append(call.getAsInt()).append('\n');
    }

    private void addStation(FolderRounds x, int s) {
        add("marks " + s, () -> x.marks(s));
        add("bytes " + s, () -> x.bytes(s));
        add("leftOut", x::leftOut);
        for (int d = 0; d < 10; d++) {
            addDocument(x, s, d);
        }
        for (int i = 0; i < 4 * 10 * 4; i++) {
            int other = i / 40;
            int document = i / 4 % 10;
            int j = i % 4;
            add("known " + s + " " + other + " " + document + " " + j, () -> x.known(s, other, document, j));
        }
    }

    private void addDocument(FolderRounds x, int s, int d) {
        int count = x.siblings(s, d);
        for (int i = 0; i < count; i++) {
            int k = i;
            String name = "version " + s + " " + d + " " + k;
            add(name + " length", () -> x.byteOf(s, d, k, -1));
            if (x.byteOf(s, d, k, -1) > 0) {
                add(name + " byte", () -> x.byteOf(s, d, k, 0));
            }
            for (int j = 0; j < 4; j++) {
                int at = j;
                add(name + " counter", () -> x.counter(s, d, k, at));
            }
        }
    }

    private void addCartridges(FolderRounds x) {
        for (int c = 0; c < 3; c++) {
            int cartridge = c;
            add("room " + c, () -> x.room(cartridge));
            int length = Checks.rowLength(x, c);
            for (int i = 0; i < length * 6; i++) {
                int k = i / 6;
                int what = i % 6;
                add("item " + c + " " + k + " " + what, () -> x.item(cartridge, k, what));
            }
        }
    }
}
