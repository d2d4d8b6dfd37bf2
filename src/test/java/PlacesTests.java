/** A test for each sentence of the promises 1 to 9 that names a boundary case. */
public final class PlacesTests {
    private static final Class<IllegalArgumentException> ARGUMENT = IllegalArgumentException.class;
    private static final Class<IllegalStateException> STATE = IllegalStateException.class;
    private static final Class<IndexOutOfBoundsException> BOUNDS = IndexOutOfBoundsException.class;
    private static final int LEAST = Integer.MIN_VALUE;
    private static final int MOST = Integer.MAX_VALUE;
    private static final Checks CHECKS = new Checks("sentences of the promises 1 to 9");

    public static void main(String[] args) {
        newObject();
        begin();
        open();
        toggle();
        set();
        send();
        receive();
        flip();
        roll();
        CHECKS.end();
    }

    private static void due(String call, long got, long want) {
        CHECKS.due(call, got, want);
    }

    private static void dueText(String call, String got, String want) {
        CHECKS.dueText(call, got, want);
    }

    /** An undoable call saves a state, and undo brings it back; not with six saved states. */
    private static void dueUndo(String call, PairedChannels x, Runnable made) {
        long before = x.digest();
        int saved = x.count(8);
        made.run();
        due("saved states behind " + call, x.count(8), saved + 1);
        due("undo() of " + call, x.undo(), saved);
        due("digest() behind undo() of " + call, x.digest(), before);
    }

    private static void duePlaceRefused(String call, int n, PlaceCall made) {
        PairedChannels x = Given.received(new int[n]);
        for (int place : new int[] {-1, n, n + 1, 16, 31, 32, 64, LEAST, MOST}) {
            CHECKS.throwsOf(x, call + place + ") of " + n, BOUNDS, () -> made.at(x, place));
        }
    }

    private interface PlaceCall {
        int at(PairedChannels x, int place);
    }

    // ---- promise 1

    private static void newObject() {
        CHECKS.sentence("Promise 1: Creates a word of 8 closed places, with an empty buffer.", () -> {
            PairedChannels x = new PairedChannels();
            due("count(0)", x.count(0), 8);
            due("count(1)", x.count(1), 0);
            due("firstError() of an empty buffer", x.firstError(), 0);
            CHECKS.throwsOf(x, "receiveAll() of an empty buffer", ARGUMENT, x::receiveAll);
            due("clearBuffer() of an empty buffer", x.clearBuffer(), 0);
            CHECKS.throwsOf(x, "undo() of a new object", STATE, x::undo);
            dueText("values", Given.values(x), "0,0,0,0,0,0,0,0");
        });
        CHECKS.sentence("Promise 1: two objects do not share a state", () -> {
            PairedChannels x = Given.allOpen(4, 3);
            Given.write(x, "1");
            PairedChannels y = new PairedChannels();
            due("count(0) of another object", y.count(0), 8);
            due("count(8) of another object", y.count(8), 0);
            due("clearBuffer() of another object", y.clearBuffer(), 0);
            due("count(0) of the first object", x.count(0), 16);
        });
    }

    // ---- promise 2

    private static void begin() {
        CHECKS.sentence("Promise 2: Begins anew: all places are closed, all values 0", () -> {
            for (int k = 1; k <= 4; k++) {
                PairedChannels x = Given.allOpen(4, 0);
                x.set(3, 99);
                x.send(65535);
                x.begin(k);
                due("count(1)", x.count(1), 0);
                due("count(4)", x.count(4), 1 << k);
                due("count(5)", x.count(5), 0);
                // nothing of the greater word is left behind the smaller one
                x.begin(4);
                due("count(1) of 16", x.count(1), 0);
                due("count(4) of 16", x.count(4), 16);
            }
        });
        CHECKS.sentence("Promise 2: (settings stay)", () -> {
            PairedChannels x = new PairedChannels();
            int[] most = {999, 4, 3, 99};
            for (int s = 0; s < 4; s++) {
                x.set(s, most[s]);
            }
            x.begin(1);
            x.begin(4);
            for (int s = 0; s < 4; s++) {
                due("setting(" + s + ")", x.setting(s), most[s]);
            }
        });
        CHECKS.sentence("Promise 2: `k`: 1 to 4", () -> {
            for (int k = -3; k <= 20; k++) {
                PairedChannels x = new PairedChannels();
                int asked = k;
                boolean isAnswered = k >= 1 && k <= 4;
                dueText("begin(" + k + ")", Checks.outcome(() -> x.begin(asked)),
                        isAnswered ? "" + (1 << k) : "throws IllegalArgumentException");
            }
        });
        CHECKS.sentence("Promise 2: Undoable.", () -> {
            for (int k = 1; k <= 4; k++) {
                int chosen = k;
                PairedChannels x = Given.opened(0b11, 2, 9, -9, 9, -9, 9, -9, 9, -9);
                dueUndo("begin(" + k + ")", x, () -> x.begin(chosen));
                dueText("values then", Given.values(x), "9,-9,9,-9,9,-9,9,-9");
            }
        });
        CHECKS.sentence("Promise 2: the buffer is not begun anew", () -> {
            PairedChannels x = Given.withBuffer("1,2");
            x.begin(1);
            due("clearBuffer() behind begin(1)", x.clearBuffer(), 3);
        });
        CHECKS.sentence("Promise 2: Returns how many places there are then.", () -> {
            PairedChannels x = new PairedChannels();
            int[] places = {2, 4, 8, 16, 16, 2};
            int[] k = {1, 2, 3, 4, 4, 1};
            for (int i = 0; i < k.length; i++) {
                due("begin(" + k[i] + ")", x.begin(k[i]), places[i]);
                due("count(0) then", x.count(0), places[i]);
            }
        });
        CHECKS.sentence("Promise 2: Throws `IllegalArgumentException` if k is out of range", () -> {
            PairedChannels x = new PairedChannels();
            for (int k : new int[] {0, 5, -1, 8, 16, 31, 32, 33, 36, LEAST, MOST}) {
                CHECKS.throwsOf(x, "begin(" + k + ")", ARGUMENT, () -> x.begin(k));
            }
        });
    }

    // ---- promise 3

    private static void open() {
        CHECKS.sentence("Promise 3: Opens the surest places, and closes all others.", () -> {
            PairedChannels x = new PairedChannels();
            // the surest one is closed and all others are open before
            Given.toggleAll(x, 127);
            due("open(1)", x.open(1), 128);
            due("open places", Given.openMask(x), 128);
            due("open(8)", x.open(8), 255);
            due("open(0)", x.open(0), 0);
            due("open places behind open(0)", Given.openMask(x), 0);
            due("open(7)", x.open(7), 254);
        });
        CHECKS.sentence("Promise 3: Undoable.", () -> {
            PairedChannels x = Given.opened(0b0101, 1, 1, 2, 3, 4);
            dueUndo("open(0)", x, () -> x.open(0));
            dueUndo("open(4)", x, () -> x.open(4));
            due("open places then", Given.openMask(x), 0b0101);
        });
        CHECKS.sentence("Promise 3: `many`: 0 to 16", () -> {
            PairedChannels x = new PairedChannels();
            x.begin(4);
            due("open(0)", x.open(0), 0);
            due("open(16)", x.open(16), 65535);
            due("open(15)", x.open(15), 65534);
            due("open(1)", x.open(1), 32768);
        });
        CHECKS.sentence("Promise 3: of places that are as unsure the ones with the greater numbers",
                PlacesTests::openAsUnsure);
        CHECKS.sentence("Promise 3: Returns the open places then, as a mask: bit p for the place p.",
                () -> {
            for (int k = 1; k <= 4; k++) {
                PairedChannels x = new PairedChannels();
                x.begin(k);
                for (int many = 0; many <= 1 << k; many++) {
                    int mask = x.open(many);
                    due("the bits of open(" + many + ")", Integer.bitCount(mask), many);
                    due("the mask of open(" + many + ")", mask, Given.openMask(x));
                }
            }
        });
        CHECKS.sentence("Promise 3: Throws `IllegalArgumentException` if many is not 0 to 16", () -> {
            for (int k = 1; k <= 4; k++) {
                PairedChannels x = new PairedChannels();
                x.begin(k);
                for (int many : new int[] {-1, 17, 32, LEAST, MOST}) {
                    CHECKS.throwsOf(x, "open(" + many + ")", ARGUMENT, () -> x.open(many));
                }
            }
        });
        CHECKS.sentence("Promise 3: Throws `IllegalStateException` if there are not so many places",
                () -> {
            for (int k = 1; k <= 3; k++) {
                PairedChannels x = new PairedChannels();
                int n = x.begin(k);
                due("open(n) of " + n, x.open(n), (1 << n) - 1);
                for (int many : new int[] {n + 1, 16}) {
                    CHECKS.throwsOf(x, "open(" + many + ") of " + n, STATE, () -> x.open(many));
                }
            }
        });
    }

    private static void openAsUnsure() {
        PairedChannels x = new PairedChannels();
        x.begin(4);
        x.set(0, 1);
        // eleven places are 0, the places 3, 5, 6, 7 and 9 to 15; then comes 8
        due("open(1) at 1", x.open(1), 32768);
        due("open(7) at 1", x.open(7), 65024);
        due("open(8) at 1", x.open(8), 65024 + 128);
        due("open(10) at 1", x.open(10), 65024 + 128 + 64 + 32);
        due("open(11) at 1", x.open(11), 65024 + 128 + 64 + 32 + 8);
        due("open(12) at 1", x.open(12), 65024 + 128 + 64 + 32 + 8 + 256);
        x.set(0, 999);
        // the places 15, 14, 13, 11 and 7 are below 1000000, and all eleven others are just that
        int surest = 32768 + 16384 + 8192 + 2048 + 128;
        due("open(5) at 999", x.open(5), surest);
        due("open(6) at 999", x.open(6), surest + 4096);
        due("open(7) at 999", x.open(7), surest + 4096 + 1024);
        due("open(9) at 999", x.open(9), surest + 4096 + 1024 + 512 + 256);
        due("open(15) at 999", x.open(15), 65534);
    }

    // ---- promise 4

    private static void toggle() {
        CHECKS.sentence("Promise 4: Opens a place, or closes it, if it is open.", () -> {
            for (int k = 1; k <= 4; k++) {
                PairedChannels x = new PairedChannels();
                int n = x.begin(k);
                x.toggle(0);
                x.toggle(n - 1);
                due("open places of " + n, Given.openMask(x), 1 | 1 << n - 1);
                x.toggle(0);
                due("open places of " + n, Given.openMask(x), 1 << n - 1);
                x.toggle(n - 1);
                due("open places of " + n, Given.openMask(x), 0);
            }
        });
        CHECKS.sentence("Promise 4: Undoable.", () -> {
            PairedChannels x = Given.opened(0b0100, 1, 1, 2, 3, 4);
            dueUndo("toggle(0)", x, () -> x.toggle(0));
            dueUndo("toggle(2)", x, () -> x.toggle(2));
        });
        CHECKS.sentence("Promise 4: Returns 1 if it is open then, otherwise 0.", () -> {
            PairedChannels x = new PairedChannels();
            x.begin(4);
            for (int p = 0; p < 16; p++) {
                due("toggle(" + p + ")", x.toggle(p), 1);
            }
            for (int p = 0; p < 16; p++) {
                due("toggle(" + p + ") again", x.toggle(p), 0);
            }
        });
        CHECKS.sentence("Promise 4: Throws `IndexOutOfBoundsException` if there is no such place",
                () -> {
            for (int n = 2; n <= 16; n *= 2) {
                duePlaceRefused("toggle(", n, PairedChannels::toggle);
            }
        });
    }

    // ---- promise 5

    private static void set() {
        CHECKS.sentence("Promise 5: Changes a setting.", () -> {
            PairedChannels x = new PairedChannels();
            int[] value = {1, 4, 3, 99};
            int[] first = {500, 1, 0, 10};
            for (int s = 0; s < 4; s++) {
                x.set(s, value[s]);
                for (int other = 0; other < 4; other++) {
                    due("setting(" + other + ") behind set(" + s + ")", x.setting(other),
                            other <= s ? value[other] : first[other]);
                }
            }
        });
        CHECKS.sentence("Promise 5: Undoable.", () -> {
            PairedChannels x = Given.allOpen(2, 2);
            int[] value = {999, 4, 0, 1};
            for (int s = 0; s < 4; s++) {
                int setting = s;
                dueUndo("set(" + s + ")", x, () -> x.set(setting, value[setting]));
            }
        });
        CHECKS.sentence("Promise 5: `setting`: 0 to 3", () -> {
            PairedChannels x = new PairedChannels();
            due("set(0, 3)", x.set(0, 3), 500);
            due("set(3, 3)", x.set(3, 3), 10);
        });
        CHECKS.sentence("Promise 5: Returns the previous value.", () -> {
            PairedChannels x = new PairedChannels();
            int[] least = {1, 1, 0, 1};
            int[] most = {999, 4, 3, 99};
            for (int s = 0; s < 4; s++) {
                x.set(s, least[s]);
                due("set of the most behind the least", x.set(s, most[s]), least[s]);
                due("set of the same", x.set(s, most[s]), most[s]);
                due("set of the least behind the most", x.set(s, least[s]), most[s]);
            }
        });
        CHECKS.sentence("Promise 5: Throws `IndexOutOfBoundsException` if there is no such setting",
                () -> {
            PairedChannels x = new PairedChannels();
            for (int setting : new int[] {-1, 4, 8, LEAST, MOST}) {
                CHECKS.throwsOf(x, "set(" + setting + ", 1)", BOUNDS, () -> x.set(setting, 1));
                CHECKS.throwsOf(x, "set(" + setting + ", -1)", BOUNDS, () -> x.set(setting, -1));
            }
        });
        CHECKS.sentence("Promise 5: Throws `IllegalArgumentException` if value is out of range",
                () -> {
            PairedChannels x = new PairedChannels();
            int[][] wrong = {{0, 1000, -1, -500}, {0, 5, -1, -4}, {-1, 4, -3, 16},
                {0, 100, -1, -99}};
            for (int s = 0; s < 4; s++) {
                int setting = s;
                for (int value : wrong[s]) {
                    CHECKS.throwsOf(x, "set(" + s + ", " + value + ")", ARGUMENT,
                            () -> x.set(setting, value));
                }
                CHECKS.throwsOf(x, "set(MIN)", ARGUMENT, () -> x.set(setting, LEAST));
                CHECKS.throwsOf(x, "set(MAX)", ARGUMENT, () -> x.set(setting, MOST));
            }
        });
    }

    // ---- promise 6

    private static void send() {
        CHECKS.sentence("Promise 6: Sends a body, with check bits by which the message is right",
                () -> {
            for (int checkBits = 0; checkBits <= 3; checkBits++) {
                PairedChannels x = Given.allOpen(4, checkBits);
                int all = (1 << 16 - checkBits) - 1;
                x.send(all);
                due("read(1) with " + checkBits, x.read(1), all);
                due("read(2) with " + checkBits, x.read(2), 0);
                due("read(4) with " + checkBits, x.read(4), 0);
                x.send(0);
                due("read(0) of 0 with " + checkBits, x.read(0), 0);
            }
        });
        CHECKS.sentence("Promise 6: for each place the value received is setting 3, with the sign "
                + "below 0 where the word has a 1", () -> {
            PairedChannels x = Given.opened(0b1100, 1, 0, 99, -99, 5);
            // the body 1 is for the place 2, its word 5; the body 3 comes to 10
            int[] strengths = {1, 10, 99};
            for (int s : strengths) {
                x.set(3, s);
                due("send(0)", x.send(0), 0);
                dueText("values", Given.values(x), s + "," + s + "," + s + "," + s);
                due("send(1)", x.send(1), 5);
                dueText("values", Given.values(x), -s + "," + s + "," + -s + "," + s);
                due("send(3)", x.send(3), 10);
                dueText("values", Given.values(x), s + "," + -s + "," + s + "," + -s);
                due("send(2)", x.send(2), 15);
                dueText("values", Given.values(x), -s + "," + -s + "," + -s + "," + -s);
            }
        });
        CHECKS.sentence("Promise 6: Undoable.", () -> {
            PairedChannels x = Given.opened(0b1000, 1, 1, -2, 3, 0);
            dueUndo("send(0)", x, () -> x.send(0));
            dueUndo("send(1)", x, () -> x.send(1));
            dueText("values then", Given.values(x), "1,-2,3,0");
        });
        CHECKS.sentence("Promise 6: `body`: 0 or more: bit j is the body bit j", () -> {
            PairedChannels none = new PairedChannels();
            due("send(0) without open places", none.send(0), 0);
            PairedChannels x = Given.allOpen(4, 0);
            due("send(1)", x.send(1), 1);
            due("send(32768)", x.send(32768), 65535);
            due("send(65535)", x.send(65535), 32768);
        });
        CHECKS.sentence("Promise 6: Returns the word, as a mask.", () -> {
            PairedChannels x = Given.allOpen(1, 0);
            int[] words = {0, 1, 3, 2};
            for (int body = 0; body < 4; body++) {
                due("send(" + body + ")", x.send(body), words[body]);
                due("word(" + body + ")", x.word(body), words[body]);
            }
        });
        CHECKS.sentence("Promise 6: Throws `IllegalArgumentException` if body is below 0, or has a "
                + "bit for which there is no body bit", () -> {
            for (int open = 0; open <= 16; open++) {
                PairedChannels x = new PairedChannels();
                x.begin(4);
                x.open(open);
                for (int checkBits = 0; checkBits <= 3; checkBits += 3) {
                    x.set(2, checkBits);
                    dueBodyRefused(x, "send(", Math.max(0, open - checkBits), x::send);
                }
            }
        });
    }

    private interface BodyCall {
        int of(int body);
    }

    private static void dueBodyRefused(PairedChannels x, String call, int bits, BodyCall made) {
        int above = 1 << bits;
        dueText(call + (above - 1) + ")", Checks.outcome(() -> made.of(above - 1)),
                "" + x.word(above - 1));
        for (int body : new int[] {above, above + 1, -1, 1 << 30, LEAST, MOST}) {
            CHECKS.throwsOf(x, call + body + ") of " + bits, ARGUMENT, () -> made.of(body));
        }
    }

    // ---- promise 7

    private static void receive() {
        CHECKS.sentence("Promise 7: Sets the value that is received for a place.", () -> {
            for (int k = 1; k <= 4; k++) {
                PairedChannels x = new PairedChannels();
                int n = x.begin(k);
                x.receive(n - 1, -99);
                x.receive(0, 99);
                due("place(0, 3) of " + n, x.place(0, 3), 199);
                due("place(n - 1, 3) of " + n, x.place(n - 1, 3), 1);
                due("count(5) of " + n, x.count(5), 198);
                x.receive(0, 0);
                due("place(0, 3) of 0", x.place(0, 3), 100);
            }
        });
        CHECKS.sentence("Promise 7: Undoable.", () -> {
            PairedChannels x = Given.received(99, -99);
            dueUndo("receive(0, -99)", x, () -> x.receive(0, -99));
            dueUndo("receive(1, 0)", x, () -> x.receive(1, 0));
            dueUndo("receive(1, -99), the same", x, () -> x.receive(1, -99));
        });
        CHECKS.sentence("Promise 7: `value`: -99 to 99", () -> {
            PairedChannels x = new PairedChannels();
            for (int value = -99; value <= 99; value++) {
                x.receive(7, value);
                due("place(7, 3)", x.place(7, 3), 100 + value);
            }
        });
        CHECKS.sentence("Promise 7: Returns 1 if it speaks for another bit, or for none where it "
                + "spoke for one, or for one where it spoke for none, otherwise 0.", () -> {
            int[] values = {-99, -1, 0, 1, 99};
            PairedChannels x = new PairedChannels();
            for (int before : values) {
                for (int value : values) {
                    x.receive(0, before);
                    due("receive(0, " + value + ") behind " + before, x.receive(0, value),
                            Integer.signum(before) == Integer.signum(value) ? 0 : 1);
                }
            }
        });
        CHECKS.sentence("Promise 7: Throws `IndexOutOfBoundsException` if there is no such place",
                () -> {
            for (int n = 2; n <= 16; n *= 2) {
                duePlaceRefused("receive 1 (", n, (x, place) -> x.receive(place, 1));
                duePlaceRefused("receive 100 (", n, (x, place) -> x.receive(place, 100));
            }
        });
        CHECKS.sentence("Promise 7: Throws `IllegalArgumentException` if value is out of range",
                () -> {
            PairedChannels x = Given.received(5, -5);
            for (int value : new int[] {-100, 100, 127, -128, LEAST, MOST}) {
                CHECKS.throwsOf(x, "receive(0, " + value + ")", ARGUMENT,
                        () -> x.receive(0, value));
                CHECKS.throwsOf(x, "receive(1, " + value + ")", ARGUMENT,
                        () -> x.receive(1, value));
            }
        });
    }

    // ---- promise 8

    private static void flip() {
        CHECKS.sentence("Promise 8: Gives the value of a place the other sign.", () -> {
            PairedChannels x = Given.received(99, -99, 0, 1);
            x.flip(0);
            dueText("values behind flip(0)", Given.values(x), "-99,-99,0,1");
            x.flip(1);
            dueText("values behind flip(1)", Given.values(x), "-99,99,0,1");
            x.flip(2);
            dueText("values behind flip(2), of 0", Given.values(x), "-99,99,0,1");
            x.flip(3);
            dueText("values behind flip(3)", Given.values(x), "-99,99,0,-1");
            x.flip(3);
            dueText("values behind flip(3) again", Given.values(x), "-99,99,0,1");
        });
        CHECKS.sentence("Promise 8: Undoable.", () -> {
            PairedChannels x = Given.received(99, -99, 0, 1);
            for (int p = 0; p < 4; p++) {
                int place = p;
                dueUndo("flip(" + p + ")", x, () -> x.flip(place));
            }
        });
        CHECKS.sentence("Promise 8: Returns the size of the value.", () -> {
            PairedChannels x = Given.received(99, -99, 0, 1);
            int[] sizes = {99, 99, 0, 1};
            for (int p = 0; p < 4; p++) {
                due("flip(" + p + ")", x.flip(p), sizes[p]);
                due("flip(" + p + ") again", x.flip(p), sizes[p]);
            }
        });
        CHECKS.sentence("Promise 8: Throws `IndexOutOfBoundsException` if there is no such place",
                () -> {
            for (int n = 2; n <= 16; n *= 2) {
                duePlaceRefused("flip(", n, PairedChannels::flip);
            }
        });
    }

    // ---- promise 9

    private static void roll() {
        CHECKS.sentence("Promise 9: Moves all values by a number of places, around: the value of "
                + "the place p comes to p + by, or p + by - n.", PlacesTests::rollAround);
        CHECKS.sentence("Promise 9: Undoable.", () -> {
            PairedChannels x = Given.received(1, 2, 3, 4);
            for (int b = 0; b < 4; b++) {
                int by = b;
                dueUndo("roll(" + b + ")", x, () -> x.roll(by));
            }
        });
        CHECKS.sentence("Promise 9: `by`: 0 to 15, less than n", () -> {
            for (int k = 1; k <= 4; k++) {
                PairedChannels x = new PairedChannels();
                int n = x.begin(k);
                x.receive(0, 7);
                due("roll(0) of " + n, x.roll(0), 0);
                due("roll(n - 1) of " + n, x.roll(n - 1), 2);
                due("the value of the place n - 1", x.place(n - 1, 3), 107);
            }
        });
        CHECKS.sentence("Promise 9: Returns how many places have another value then.", () -> {
            PairedChannels x = Given.received(1, -1, 1, -1);
            int[] due = {0, 4, 0, 4};
            for (int by = 0; by < 4; by++) {
                due("roll(" + by + ") of 1, -1, 1, -1", x.roll(by), due[by]);
            }
            due("roll(1) of like values", Given.received(5, 5).roll(1), 0);
            due("roll(1) of 5, -5", Given.received(5, -5).roll(1), 2);
            due("roll(1) of 1, 1, 1, 2", Given.received(1, 1, 1, 2).roll(1), 2);
            PairedChannels sixteen = new PairedChannels();
            sixteen.begin(4);
            for (int p = 0; p < 16; p++) {
                sixteen.receive(p, p);
            }
            due("roll(15) of sixteen values", sixteen.roll(15), 16);
        });
        CHECKS.sentence("Promise 9: Throws `IllegalArgumentException` if by is out of range", () -> {
            for (int k = 1; k <= 4; k++) {
                PairedChannels x = new PairedChannels();
                int n = x.begin(k);
                x.receive(0, 7);
                for (int by : new int[] {-1, n, n + 1, 16, -n, LEAST, MOST}) {
                    CHECKS.throwsOf(x, "roll(" + by + ") of " + n, ARGUMENT, () -> x.roll(by));
                }
            }
        });
    }

    private static void rollAround() {
        String[] due = {"1,2,3,4", "4,1,2,3", "3,4,1,2", "2,3,4,1"};
        for (int by = 0; by < 4; by++) {
            PairedChannels x = Given.received(1, 2, 3, 4);
            x.roll(by);
            dueText("values behind roll(" + by + ")", Given.values(x), due[by]);
        }
        PairedChannels two = Given.received(1, 2);
        two.roll(1);
        dueText("values behind roll(1) of 2", Given.values(two), "2,1");
        PairedChannels sixteen = new PairedChannels();
        sixteen.begin(4);
        sixteen.receive(0, 7);
        sixteen.receive(1, 8);
        sixteen.receive(15, 9);
        sixteen.roll(15);
        due("the place 0 behind roll(15)", sixteen.place(0, 3), 108);
        due("the place 15 behind roll(15)", sixteen.place(15, 3), 107);
        due("the place 14 behind roll(15)", sixteen.place(14, 3), 109);
        sixteen.roll(1);
        due("the place 0 behind roll(1)", sixteen.place(0, 3), 107);
        due("the place 15 behind roll(1)", sixteen.place(15, 3), 109);
        Given.toggleAll(sixteen, 1);
        sixteen.roll(3);
        due("open places behind roll", Given.openMask(sixteen), 1);
    }
}
