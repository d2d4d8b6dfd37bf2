/** Objects to begin a test with, and what the tests ask of them again and again. */
final class Given {
    private Given() {
    }

    /**
     * A word of as many places as there are values; these are received, and all is closed. They
     * are received at once, so that undo has room for more states.
     */
    static PairedChannels received(int... values) {
        PairedChannels x = new PairedChannels();
        x.begin(Integer.numberOfTrailingZeros(values.length));
        for (int p = 0; p < values.length; p++) {
            write(x, (p == 0 ? "" : ",") + values[p]);
        }
        x.receiveAll();
        return x;
    }

    /** The same, with the places of the mask open, and as many paths. */
    static PairedChannels opened(int mask, int paths, int... values) {
        PairedChannels x = received(values);
        toggleAll(x, mask);
        x.set(1, paths);
        return x;
    }

    /** A word of 2 to the power k places that are all open, with as many check bits. */
    static PairedChannels allOpen(int k, int checkBits) {
        PairedChannels x = new PairedChannels();
        x.begin(k);
        x.open(1 << k);
        x.set(2, checkBits);
        return x;
    }

    static void toggleAll(PairedChannels x, int mask) {
        for (int p = 0; mask >> p != 0; p++) {
            if ((mask >> p & 1) == 1) {
                x.toggle(p);
            }
        }
    }

    static PairedChannels withBuffer(String text) {
        PairedChannels x = new PairedChannels();
        write(x, text);
        return x;
    }

    static void write(PairedChannels x, String text) {
        for (int i = 0; i < text.length(); i++) {
            x.append(text.charAt(i));
        }
    }

    static String repeated(String part, int times) {
        StringBuilder text = new StringBuilder();
        for (int i = 0; i < times; i++) {
            text.append(part);
        }
        return text.toString();
    }

    static int openMask(PairedChannels x) {
        int mask = 0;
        int n = x.count(0);
        for (int p = 0; p < n; p++) {
            mask |= x.place(p, 0) << p;
        }
        return mask;
    }

    /** The values received, with "," between them. */
    static String values(PairedChannels x) {
        StringBuilder text = new StringBuilder();
        int n = x.count(0);
        for (int p = 0; p < n; p++) {
            text.append(p == 0 ? "" : ",").append(x.place(p, 3) - 100);
        }
        return text.toString();
    }

    /** What each place hears, with "," between them. */
    static String heard(PairedChannels x) {
        StringBuilder text = new StringBuilder();
        int n = x.count(0);
        for (int p = 0; p < n; p++) {
            text.append(p == 0 ? "" : ",").append(x.heard(p) - 10000);
        }
        return text.toString();
    }

    /** The paths at the end: of each its message, ":", its penalty, and "!" if it is right. */
    static String paths(PairedChannels x) {
        StringBuilder text = new StringBuilder();
        for (int rank = 0; rank < x.count(6); rank++) {
            text.append(rank == 0 ? "" : " ").append(x.path(rank, 0));
            text.append(':').append(x.path(rank, 1)).append(x.path(rank, 2) == 1 ? "!" : "");
        }
        return text.toString();
    }

    /** What is read: the message, the body, the rank, the penalty, the places that differ. */
    static String read(PairedChannels x) {
        StringBuilder text = new StringBuilder();
        for (int what = 0; what <= 4; what++) {
            text.append(what == 0 ? "" : ",").append(x.read(what));
        }
        return text.toString();
    }

    /** The digest, and that of each state that undo brings back: the object is used up by this. */
    static String history(PairedChannels x) {
        StringBuilder text = new StringBuilder();
        text.append(x.digest());
        while (x.count(8) > 0) {
            x.undo();
            text.append(' ').append(x.digest());
        }
        return text.toString();
    }
}
