/**
 * What follows from the document as a whole, though no single sentence says it: laws that hold for
 * every state, so that no answer needs to be known beforehand.
 */
public final class LawsTests {
    private static final Checks CHECKS = new Checks("laws");
    private static final int STATES = 600;
    private static long seed;

    private static int between(int least, int most) {
        seed = seed * 6364136223846793005L + 1442695040888963407L;
        return least + (int) ((seed >>> 33) % (most - least + 1));
    }

    public static void main(String[] args) {
        for (int state = 1; state <= STATES; state++) {
            codingTwice(state);
            unsurenessIsKept(state);
            sentIsRead(state);
            penaltyIsWhatDiffers(state);
            fewMessagesAreAllRead(state);
            whatWouldBeIs(state);
            thereAndBack(state);
        }
        CHECKS.end();
    }

    private static PairedChannels made(int state) {
        seed = state * 104729L;
        int k = between(1, 4);
        PairedChannels x = new PairedChannels();
        x.begin(k);
        x.set(0, between(1, 999));
        x.open(between(0, 1 << k));
        if (between(0, 2) == 0) {
            x.toggle(between(0, (1 << k) - 1));
        }
        x.set(1, between(1, 4));
        x.set(2, between(0, 3));
        x.set(3, between(1, 99));
        return x;
    }

    /** The same with values received, most of them small, so that many are alike. */
    private static PairedChannels received(int state) {
        PairedChannels x = made(state);
        int most = between(0, 2) == 0 ? 99 : 3;
        for (int p = 0; p < x.count(0); p++) {
            x.receive(p, between(-most, most));
        }
        return x;
    }

    private static void due(int state, String what, long got, long want) {
        CHECKS.due("state " + state + ": " + what, got, want);
    }

    /** Each step undoes itself and the steps do not disturb one another: twice is as before. */
    private static void codingTwice(int state) {
        PairedChannels x = made(state);
        int all = (1 << x.count(0)) - 1;
        int a = between(0, 65535);
        int b = between(0, 65535);
        due(state, "coding twice " + a, x.code(x.code(a)), a & all);
        due(state, "coding unlike bits of " + a + ", " + b, x.code(a ^ b), x.code(a) ^ x.code(b));
        int body = between(0, (1 << x.count(2)) - 1);
        int open = Given.openMask(x);
        int bits = x.code(x.word(body));
        due(state, "closed places in a word", bits & ~open, 0);
        int j = 0;
        for (int p = 0; j < x.count(2); p++) {
            if ((open >> p & 1) == 1) {
                due(state, "body bit " + j, bits >> p & 1, body >> j & 1);
                j++;
            }
        }
    }

    /** Pairing makes one place as much surer as it makes the other one less sure. */
    private static void unsurenessIsKept(int state) {
        PairedChannels x = made(state);
        int n = x.count(0);
        long sum = 0;
        int ranks = 0;
        for (int p = 0; p < n; p++) {
            sum += x.place(p, 1);
            ranks |= 1 << x.place(p, 2);
            if (p % 2 == 1) {
                boolean isSurer = x.place(p, 2) < x.place(p - 1, 2);
                due(state, "place " + p + " is surer than " + (p - 1), isSurer ? 1 : 0, 1);
            }
        }
        due(state, "sum of how unsure all are", sum, n * 1000L * x.setting(0));
        due(state, "all ranks", ranks, (1 << n) - 1);
        x.open(n);
        CHECKS.dueShare("share with all open", x.unsureShare(), x.setting(0) / 1000.0);
    }

    private static void sentIsRead(int state) {
        PairedChannels x = made(state);
        int body = between(0, (1 << x.count(2)) - 1);
        int word = x.send(body);
        due(state, "word that is sent", word, x.word(body));
        due(state, "body that is read", x.read(1), body);
        due(state, "rank of what was sent", x.read(2), 0);
        due(state, "its penalty", x.read(3), 0);
        due(state, "places that differ", x.read(4), 0);
        due(state, "sum of the sizes", x.count(5), x.count(0) * x.setting(3));
        int p = between(0, x.count(0) - 1);
        int forIt = (word >> p & 1) == 1 ? -1 : 1;
        due(state, "received for the bit that was sent", x.receive(p, forIt), 0);
        due(state, "received for the other bit", x.receive(p, -forIt), 1);
    }

    /**
     * What a path pays at both places of a pair is what it pays at the values they came from: so
     * its penalty is the sum of the sizes of the values that speak against its word.
     */
    private static void penaltyIsWhatDiffers(int state) {
        PairedChannels x = received(state);
        int open = Given.openMask(x);
        int[] values = values(x);
        int paths = x.count(6);
        for (int rank = 0; rank < paths; rank++) {
            int word = wordOf(x, open, x.path(rank, 0));
            due(state, "penalty of rank " + rank, x.path(rank, 1), against(values, word));
            if (rank > 0) {
                due(state, "ordered", x.path(rank - 1, 1) <= x.path(rank, 1) ? 1 : 0, 1);
            }
        }
        due(state, "no path behind", x.path(paths, 0), PairedChannels.NONE);
        firstRightIsRead(state, x, open);
    }

    private static void firstRightIsRead(int state, PairedChannels x, int open) {
        int right = 0;
        int first = PairedChannels.NONE;
        for (int rank = x.count(6) - 1; rank >= 0; rank--) {
            right += x.path(rank, 2);
            first = x.path(rank, 2) == 1 ? rank : first;
        }
        due(state, "right paths", x.count(7), right);
        due(state, "the first right one", x.read(2), first);
        if (first != PairedChannels.NONE) {
            due(state, "message read", x.read(0), x.path(first, 0));
            due(state, "penalty read", x.read(3), x.path(first, 1));
            due(state, "word of what is read", x.word(x.read(1)), wordOf(x, open, x.read(0)));
        }
    }

    private static int wordOf(PairedChannels x, int open, int message) {
        int bits = 0;
        int left = message;
        for (int p = 0; open >> p != 0; p++) {
            if ((open >> p & 1) == 1) {
                bits |= (left & 1) << p;
                left >>= 1;
            }
        }
        return x.code(bits);
    }

    private static int[] values(PairedChannels x) {
        int[] values = new int[x.count(0)];
        for (int p = 0; p < values.length; p++) {
            values[p] = x.place(p, 3) - 100;
        }
        return values;
    }

    private static int against(int[] values, int word) {
        int sum = 0;
        for (int p = 0; p < values.length; p++) {
            boolean isAgainst = (word >> p & 1) == 1 ? values[p] > 0 : values[p] < 0;
            sum += isAgainst ? Math.abs(values[p]) : 0;
        }
        return sum;
    }

    /** With no more messages than paths none is dropped: each is there, the least penalty first. */
    private static void fewMessagesAreAllRead(int state) {
        PairedChannels x = received(state);
        int open = Given.openMask(x);
        while (Integer.bitCount(open) > 2) {
            int highest = Integer.numberOfTrailingZeros(Integer.highestOneBit(open));
            x.toggle(highest);
            open ^= 1 << highest;
        }
        x.set(1, 4);
        int[] values = values(x);
        int messages = 1 << x.count(1);
        due(state, "paths", x.count(6), messages);
        int seen = 0;
        int least = Integer.MAX_VALUE;
        for (int message = 0; message < messages; message++) {
            seen |= 1 << x.path(message, 0);
            least = Math.min(least, against(values, wordOf(x, open, message)));
        }
        due(state, "all messages", seen, (1 << messages) - 1);
        due(state, "least penalty", x.path(0, 1), least);
        due(state, "right ones", x.count(7), 1 << x.count(2));
    }

    private static void whatWouldBeIs(int state) {
        PairedChannels x = received(state);
        int n = x.count(0);
        int readNow = x.read(0);
        int weakest = PairedChannels.NONE;
        for (int p = n - 1; p >= 0; p--) {
            int would = x.ifFlipped(p);
            x.flip(p);
            due(state, "read behind flip " + p, x.read(0), would);
            x.undo();
            weakest = would == readNow ? weakest : p;
        }
        due(state, "weakest", x.weakest(), weakest);
        int borne = x.borne();
        for (int p = 0; p < borne; p++) {
            x.flip(p);
            due(state, "read with the first " + (p + 1) + " flipped", x.read(0), readNow);
        }
        if (borne < n) {
            x.flip(borne);
            due(state, "it is otherwise behind " + borne, x.read(0) == readNow ? 1 : 0, 0);
        }
    }

    private static void thereAndBack(int state) {
        PairedChannels x = received(state);
        int n = x.count(0);
        String values = Given.values(x);
        int p = between(0, n - 1);
        due(state, "size", x.flip(p), x.flip(p));
        CHECKS.dueText("state " + state + ": flipped twice", Given.values(x), values);
        int by = between(0, n - 1);
        int moved = x.roll(by);
        due(state, "rolled back by " + by, x.roll(by == 0 ? 0 : n - by), moved);
        CHECKS.dueText("state " + state + ": rolled around", Given.values(x), values);
        due(state, "toggled twice", x.toggle(p) + x.toggle(p), 1);
        // the values written, and received all at once, are the same values
        x.clearBuffer();
        Given.write(x, values);
        long before = x.count(5);
        due(state, "no error", x.firstError(), values.length());
        due(state, "received at once", x.receiveAll(), n);
        due(state, "the same sum", x.count(5), before);
        CHECKS.dueText("state " + state + ": received at once", Given.values(x), values);
    }
}
