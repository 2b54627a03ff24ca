import java.util.NoSuchElementException;

/** Counts and prints the answers that are not the ones due. */
final class Checks {
    private int wrong = 0;
    private String sentence = "";

    /** The document's words that the answers from here on hang on. */
    void sentence(String place, String words) {
        sentence = place + ", \"" + words + "\": ";
    }

    private void wrong(String what) {
        wrong++;
        System.out.println(sentence + what);
    }

    void due(String call, long got, long want) {
        if (got != want) {
            wrong(call + " answered " + got + ", due is " + want);
        }
    }

    void due(String call, boolean got, boolean want) {
        due(call, got ? 1 : 0, want ? 1 : 0);
    }

    void noSuchElement(String call, Runnable run) {
        throwsDue(call, NoSuchElementException.class, run);
    }

    void illegalArgument(String call, Runnable run) {
        throwsDue(call, IllegalArgumentException.class, run);
    }

    void outOfBounds(String call, Runnable run) {
        throwsDue(call, IndexOutOfBoundsException.class, run);
    }

    void unsupported(String call, Runnable run) {
        throwsDue(call, UnsupportedOperationException.class, run);
    }

    void throwsDue(String call, Class<? extends RuntimeException> want, Runnable run) {
        String got = "nothing";
        try {
            run.run();
        } catch (RuntimeException e) {
            got = e.getClass().getName();
        }
        if (!got.equals(want.getName())) {
            wrong(call + " throws " + got + ", due is " + want.getName());
        }
    }

    /** The k-th version with bytes at a station has this length and vector. */
    void sibling(FolderRounds x, int station, int document, int k, int length, int... counters) {
        String name = "station " + station + " document " + document + " version " + k;
        due(name + " length", x.byteOf(station, document, k, -1), length);
        for (int j = 0; j < 4; j++) {
            due(name + " counter " + j, x.counter(station, document, k, j), counters[j]);
        }
    }

    void known(FolderRounds x, int station, int other, int document, int... counters) {
        for (int j = 0; j < 4; j++) {
            due("known(" + station + ", " + other + ", " + document + ", " + j + ")",
                    x.known(station, other, document, j), counters[j]);
        }
    }

    void item(FolderRounds x, int cartridge, int k, int... wanted) {
        for (int what = 0; what < 6; what++) {
            due("item(" + cartridge + ", " + k + ", " + what + ")", x.item(cartridge, k, what), wanted[what]);
        }
    }

    /** A cartridge has exactly so many versions. */
    void rowLength(FolderRounds x, int cartridge, int length) {
        due("the length of the row of " + cartridge, rowLength(x, cartridge), length);
    }

    /** No more than twelve versions have room, as each takes 8 of 100. */
    static int rowLength(FolderRounds x, int cartridge) {
        int length = 0;
        try {
            while (length <= 12) {
                x.item(cartridge, length, 0);
                length++;
            }
        } catch (NoSuchElementException e) {
            return length;
        }
        return length;
    }

    void finish() {
        if (wrong > 0) {
            System.out.println(wrong + " answers are not as due");
            System.exit(1);
        }
    }
}
