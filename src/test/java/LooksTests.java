/** A test for each sentence of the promises 15 to 22 that names a boundary case. */
public final class LooksTests {
    private static final Class<IllegalArgumentException> ARGUMENT = IllegalArgumentException.class;
    private static final Class<IndexOutOfBoundsException> BOUNDS = IndexOutOfBoundsException.class;
    private static final int LEAST = Integer.MIN_VALUE;
    private static final int MOST = Integer.MAX_VALUE;
    private static final int NONE = PairedChannels.NONE;
    private static final Checks CHECKS = new Checks("sentences of the promises 15 to 22");

    public static void main(String[] args) {
        place();
        placeThrows();
        code();
        word();
        read();
        path();
        heard();
        count();
        countOfPaths();
        setting();
        CHECKS.end();
    }

    private static void due(String call, long got, long want) {
        CHECKS.due(call, got, want);
    }

    private static void dueText(String call, String got, String want) {
        CHECKS.dueText(call, got, want);
    }

    private static String all(PairedChannels x, int what) {
        StringBuilder text = new StringBuilder();
        for (int p = 0; p < x.count(0); p++) {
            text.append(p == 0 ? "" : ",").append(x.place(p, what));
        }
        return text.toString();
    }

    // ---- promise 15

    private static void place() {
        CHECKS.sentence("Promise 15: 0: 1 if it is open, otherwise 0", () -> {
            PairedChannels x = Given.opened(0b1001, 1, 0, 0, 0, 0);
            dueText("place(p, 0)", all(x, 0), "1,0,0,1");
            x.open(0);
            dueText("place(p, 0) behind open(0)", all(x, 0), "0,0,0,0");
            x.open(4);
            dueText("place(p, 0) behind open(4)", all(x, 0), "1,1,1,1");
        });
        CHECKS.sentence("Promise 15: 1: how unsure it is", () -> {
            PairedChannels x = new PairedChannels();
            x.begin(2);
            dueText("place(p, 1) at 500", all(x, 1), "937500,562500,437500,62500");
            x.set(0, 1);
            dueText("place(p, 1) at 1", all(x, 1), "3995,3,2,0");
            x.set(0, 999);
            dueText("place(p, 1) at 999", all(x, 1), "1000000,999998,999997,996005");
        });
        CHECKS.sentence("Promise 15: 2: its rank by how sure it is, from 0 for the surest one (of "
                + "places that are as unsure the greater number first)", () -> {
            PairedChannels x = new PairedChannels();
            x.begin(4);
            dueText("place(p, 2) at 500", all(x, 2), "15,14,13,10,12,9,8,4,11,7,6,3,5,2,1,0");
            x.set(0, 1);
            // the places 3, 5, 6, 7 and 9 to 15 are all 0
            dueText("place(p, 2) at 1", all(x, 2), "15,14,13,10,12,9,8,7,11,6,5,4,3,2,1,0");
            x.set(0, 999);
            // the places 0 to 6, 8 to 10 and 12 are all 1000000
            dueText("place(p, 2) at 999", all(x, 2), "15,14,13,12,11,10,9,4,8,7,6,3,5,2,1,0");
            x.begin(1);
            dueText("place(p, 2) of 2", all(x, 2), "1,0");
        });
        CHECKS.sentence("Promise 15: 3: the value received for it, plus 100", () -> {
            PairedChannels x = Given.received(-99, 99, 0, -1);
            dueText("place(p, 3)", all(x, 3), "1,199,100,99");
        });
        CHECKS.sentence("Promise 15: 4: which open place it is, from 0, NONE if it is closed", () -> {
            PairedChannels x = Given.opened(0b1010, 1, 0, 0, 0, 0);
            dueText("place(p, 4)", all(x, 4), "-1,0,-1,1");
            x.open(0);
            dueText("place(p, 4) behind open(0)", all(x, 4), "-1,-1,-1,-1");
            x.open(4);
            dueText("place(p, 4) behind open(4)", all(x, 4), "0,1,2,3");
            x.begin(4);
            x.toggle(0);
            x.toggle(15);
            due("place(15, 4)", x.place(15, 4), 1);
        });
        CHECKS.sentence("Promise 15: 5: 1 if it is for a check bit, otherwise 0", () -> {
            PairedChannels x = Given.opened(0b1101, 1, 0, 0, 0, 0);
            String[] due = {"0,0,0,0", "0,0,0,1", "0,0,1,1", "1,0,1,1"};
            for (int checkBits = 0; checkBits <= 3; checkBits++) {
                x.set(2, checkBits);
                dueText("place(p, 5) with " + checkBits, all(x, 5), due[checkBits]);
            }
            // fewer open places than check bits: all of them, and no closed one
            x.toggle(2);
            dueText("place(p, 5) with 3 of 2", all(x, 5), "1,0,0,1");
            x.open(0);
            dueText("place(p, 5) with 3 of none", all(x, 5), "0,0,0,0");
        });
    }

    private static void placeThrows() {
        CHECKS.sentence("Promise 15: Throws `IndexOutOfBoundsException` if there is no such place",
                () -> {
            for (int n = 2; n <= 16; n *= 2) {
                PairedChannels x = Given.received(new int[n]);
                for (int place : new int[] {-1, n, 16, 32, LEAST, MOST}) {
                    String of = "place(" + place;
                    CHECKS.throwsOf(x, of + ", 0) of " + n, BOUNDS, () -> x.place(place, 0));
                    CHECKS.throwsOf(x, of + ", 5) of " + n, BOUNDS, () -> x.place(place, 5));
                    CHECKS.throwsOf(x, of + ", 6) of " + n, BOUNDS, () -> x.place(place, 6));
                    CHECKS.throwsOf(x, of + ", -1) of " + n, BOUNDS, () -> x.place(place, -1));
                }
            }
        });
        CHECKS.sentence("Promise 15: Throws `IllegalArgumentException` if what is not 0 to 5", () -> {
            PairedChannels x = new PairedChannels();
            for (int what : new int[] {-1, 6, LEAST, MOST}) {
                CHECKS.throwsOf(x, "place(0, " + what + ")", ARGUMENT, () -> x.place(0, what));
                CHECKS.throwsOf(x, "place(7, " + what + ")", ARGUMENT, () -> x.place(7, what));
            }
        });
    }

    // ---- promise 16

    private static void code() {
        CHECKS.sentence("Promise 16: `bits`: a mask: bit p for the place p; bits for which there is "
                + "no place do not matter", () -> {
            for (int k = 1; k <= 4; k++) {
                PairedChannels x = new PairedChannels();
                int n = x.begin(k);
                int without = 65535 & -(1 << n);
                due("code of bits without a place", x.code(without), 0);
                for (int bits : new int[] {0, 1, 2, 3}) {
                    due("code with bits without a place", x.code(bits | without), x.code(bits));
                }
                due("code(65535) of " + n, x.code(65535), 1 << n - 1);
                due("code of the first bit without a place", x.code(1 << n & 65535), 0);
            }
        });
        CHECKS.sentence("Promise 16: Returns what they come to, as a mask.", () -> {
            PairedChannels x = new PairedChannels();
            due("code(0)", x.code(0), 0);
            due("code(1)", x.code(1), 1);
            due("code(128)", x.code(128), 255);
            due("code(255)", x.code(255), 128);
            due("count(8) behind code", x.count(8), 0);
            x.begin(4);
            due("code(0) of 16", x.code(0), 0);
            due("code(32768) of 16", x.code(32768), 65535);
            due("code(65535) of 16", x.code(65535), 32768);
            due("code(65534) of 16", x.code(65534), 32769);
        });
        CHECKS.sentence("Promise 16: Throws `IllegalArgumentException` if bits is not 0 to 65535",
                () -> {
            for (int k = 1; k <= 4; k++) {
                PairedChannels x = new PairedChannels();
                x.begin(k);
                for (int bits : new int[] {-1, 65536, 65537, 131071, LEAST, MOST}) {
                    CHECKS.throwsOf(x, "code(" + bits + ")", ARGUMENT, () -> x.code(bits));
                }
            }
        });
    }

    // ---- promise 17

    private static void word() {
        CHECKS.sentence("Promise 17: Returns the word of a body with its check bits.", () -> {
            PairedChannels x = Given.allOpen(2, 0);
            due("word(15)", x.word(15), 8);
            x.set(2, 1);
            // the body 7 has the sum 6, whose last digit is 0; the body 1 the sum 1
            due("word(7)", x.word(7), 7);
            due("word(1)", x.word(1), 14);
            x.set(2, 3);
            // one body bit, the sum 1: the first check bit is at the place 1
            due("word(1) with 3 check bits", x.word(1), 2);
            due("word(0) with 3 check bits", x.word(0), 0);
            x.open(3);
            due("word(0) of only check bits", x.word(0), 0);
            x.open(0);
            due("word(0) of closed places", x.word(0), 0);
        });
        CHECKS.sentence("Promise 17: `body`: 0 or more", () -> {
            PairedChannels x = Given.allOpen(4, 0);
            due("word(0)", x.word(0), 0);
            due("word(1)", x.word(1), 1);
            due("word(65535)", x.word(65535), 32768);
            CHECKS.throwsOf(x, "word(-1)", ARGUMENT, () -> x.word(-1));
            CHECKS.throwsOf(x, "word(65536)", ARGUMENT, () -> x.word(65536));
        });
        CHECKS.sentence("Promise 17: looks change nothing", () -> {
            PairedChannels x = Given.allOpen(2, 1);
            long before = x.digest();
            x.word(7);
            due("digest() behind word(7)", x.digest(), before);
            due("count(5) behind word(7)", x.count(5), 0);
        });
        CHECKS.sentence("Promise 17: Throws `IllegalArgumentException` if body is below 0, or has a "
                + "bit for which there is no body bit", () -> {
            for (int open = 0; open <= 16; open++) {
                PairedChannels x = new PairedChannels();
                x.begin(4);
                x.open(open);
                for (int checkBits = 0; checkBits <= 3; checkBits++) {
                    x.set(2, checkBits);
                    int bits = Math.max(0, open - checkBits);
                    due("answers of word", Checks.outcome(() -> x.word((1 << bits) - 1))
                            .startsWith("throws") ? 1 : 0, 0);
                    for (int body : new int[] {1 << bits, -1, 1 << 30, LEAST, MOST}) {
                        CHECKS.throwsOf(x, "word(" + body + ") of " + bits, ARGUMENT,
                                () -> x.word(body));
                    }
                }
            }
        });
    }

    // ---- promise 18

    private static void read() {
        CHECKS.sentence("Promise 18: 0: the message; 1: its body", () -> {
            PairedChannels x = Given.allOpen(4, 3);
            x.send(8191);
            due("read(0)", x.read(0), 8191 + 3 * 8192);
            due("read(1)", x.read(1), 8191);
            x.set(2, 0);
            due("read(0) without check bits", x.read(0), 8191 + 3 * 8192);
            due("read(1) without check bits", x.read(1), 8191 + 3 * 8192);
            x.open(2);
            x.set(2, 3);
            x.send(0);
            due("read(0) of only check bits", x.read(0), 0);
            due("read(1) of only check bits", x.read(1), 0);
        });
        CHECKS.sentence("Promise 18: 2: the rank of its path, from 0; 3: its penalty", () -> {
            // the paths of -2, -3 are 2:0, 3:2, 1:3 and 0:5; only 0 is right without a body
            PairedChannels x = Given.opened(0b11, 4, -2, -3);
            dueText("read with the first path", Given.read(x), "2,2,0,0,0");
            x.set(2, 2);
            dueText("read with the last path", Given.read(x), "0,0,3,5,2");
            x.set(2, 1);
            // with a check bit 0 and 3 are right
            dueText("read with the second path", Given.read(x), "3,1,1,2,1");
        });
        CHECKS.sentence("Promise 18: 4: in how many places its word and the values received differ "
                + "(a value of 0 never does)", () -> {
            due("read(4) of zeros", Given.received(0, 0).read(4), 0);
            due("read(4) of 1, 99", Given.received(1, 99).read(4), 0);
            due("read(4) of -1, 0", Given.received(-1, 0).read(4), 1);
            due("read(4) of -1, -1", Given.received(-1, -1).read(4), 2);
            // a 1 at the place 1 has the word 3
            due("read(4) of the word 3", Given.opened(0b10, 1, 3, -9).read(4), 1);
            due("read(4) of the word 3 and 1", Given.opened(0b10, 1, 1, -9).read(4), 1);
            due("read(4) of the word 3 and 0", Given.opened(0b10, 1, 0, -9).read(4), 0);
            due("read(4) of the word 3 and -1", Given.opened(0b10, 1, -1, -9).read(4), 0);
            PairedChannels sixteen = Given.received(-1, -1, -1, -1, -1, -1, -1, -1, -1, -1, -1, -1,
                    -1, -1, -1, -1);
            due("read(4) of sixteen", sixteen.read(4), 16);
        });
        CHECKS.sentence("Promise 18: Returns the number; NONE if nothing is read.", () -> {
            PairedChannels x = Given.opened(0b10, 1, 0, -5);
            x.set(2, 1);
            for (int what = 0; what <= 4; what++) {
                due("read(" + what + ") of nothing", x.read(what), NONE);
            }
            due("count(6) then", x.count(6), 1);
            due("count(7) then", x.count(7), 0);
        });
        CHECKS.sentence("Promise 18: Throws `IllegalArgumentException` if what is not 0 to 4", () -> {
            PairedChannels something = new PairedChannels();
            PairedChannels nothing = Given.opened(0b10, 1, 0, -5);
            nothing.set(2, 1);
            for (int what : new int[] {-1, 5, LEAST, MOST}) {
                String call = "read(" + what + ")";
                CHECKS.throwsOf(something, call, ARGUMENT, () -> something.read(what));
                CHECKS.throwsOf(nothing, call + " of nothing", ARGUMENT, () -> nothing.read(what));
            }
        });
    }

    // ---- promise 19

    private static void path() {
        CHECKS.sentence("Promise 19: `rank`: its rank, from 0", () -> {
            PairedChannels x = Given.opened(0b1100, 4, 3, -5, 7, 2);
            int[] messages = {3, 0, 2, 1};
            int[] penalties = {2, 5, 12, 15};
            for (int rank = 0; rank < 4; rank++) {
                due("path(" + rank + ", 0)", x.path(rank, 0), messages[rank]);
                due("path(" + rank + ", 1)", x.path(rank, 1), penalties[rank]);
            }
        });
        CHECKS.sentence("Promise 19: 2: 1 if its message is right, otherwise 0", () -> {
            PairedChannels x = Given.opened(0b1100, 4, 3, -5, 7, 2);
            int[][] due = {{1, 1, 1, 1}, {1, 1, 0, 0}, {0, 1, 0, 0}, {0, 1, 0, 0}};
            for (int checkBits = 0; checkBits <= 3; checkBits++) {
                x.set(2, checkBits);
                for (int rank = 0; rank < 4; rank++) {
                    due("path(" + rank + ", 2) with " + checkBits, x.path(rank, 2),
                            due[checkBits][rank]);
                }
            }
        });
        CHECKS.sentence("Promise 19: Returns the number; NONE if there are not so many paths.",
                () -> {
            for (int paths = 1; paths <= 4; paths++) {
                PairedChannels x = Given.opened(0b1100, paths, 3, -5, 7, 2);
                for (int what = 0; what <= 2; what++) {
                    due("path of the last rank", x.path(paths - 1, what) == NONE ? 1 : 0, 0);
                    for (int rank : new int[] {paths, paths + 1, 4, 8, MOST}) {
                        due("path(" + rank + ", " + what + ") of " + paths, x.path(rank, what),
                                NONE);
                    }
                }
            }
            // fewer paths than setting 1 asks for
            PairedChannels closed = Given.opened(0, 4, 3, -5);
            due("path(0, 1) of closed places", closed.path(0, 1), 5);
            due("path(1, 1) of closed places", closed.path(1, 1), NONE);
            PairedChannels two = Given.opened(0b01, 3, 3, -5);
            due("path(1, 0) of one open place", two.path(1, 0), 1);
            due("path(2, 0) of one open place", two.path(2, 0), NONE);
        });
        CHECKS.sentence("Promise 19: Throws `IllegalArgumentException` if rank is below 0, or what "
                + "is not 0 to 2", () -> {
            PairedChannels x = new PairedChannels();
            for (int rank : new int[] {-1, LEAST}) {
                for (int what = 0; what <= 2; what++) {
                    int asked = what;
                    CHECKS.throwsOf(x, "path(" + rank + ", " + what + ")", ARGUMENT,
                            () -> x.path(rank, asked));
                }
                CHECKS.throwsOf(x, "path(" + rank + ", 3)", ARGUMENT, () -> x.path(rank, 3));
            }
            for (int what : new int[] {-1, 3, LEAST, MOST}) {
                for (int rank : new int[] {0, 1, 4, MOST}) {
                    CHECKS.throwsOf(x, "path(" + rank + ", " + what + ")", ARGUMENT,
                            () -> x.path(rank, what));
                }
            }
        });
    }

    // ---- promise 20

    private static void heard() {
        CHECKS.sentence("Promise 20: Tells what the first path at the end (the one with the rank 0) "
                + "heard at a place.", () -> {
            // the last path in the list, with a 1 at both places, is the first one at the end
            PairedChannels x = Given.opened(0b11, 4, 5, -3);
            dueText("paths", Given.paths(x), "3:0! 0:3! 2:5! 1:8!");
            dueText("heard", Given.heard(x), "-3,-8");
            // the first path is not right, the second one is what is read
            x.set(2, 2);
            due("read(2)", x.read(2), 1);
            dueText("heard by the first path", Given.heard(x), "-3,-8");
        });
        CHECKS.sentence("Promise 20: Returns the value, plus 10000.", () -> {
            PairedChannels zero = new PairedChannels();
            for (int p = 0; p < 8; p++) {
                due("heard(" + p + ") of zeros", zero.heard(p), 10000);
            }
            PairedChannels x = new PairedChannels();
            x.begin(4);
            x.set(3, 99);
            x.send(0);
            due("heard(15) of all 99", x.heard(15), 11584);
            for (int p = 0; p < 16; p++) {
                x.flip(p);
            }
            due("heard(15) of all -99", x.heard(15), 8416);
            due("heard(0) of all -99", x.heard(0), 10099);
            due("heard(1) of all -99", x.heard(1), 10198);
        });
        CHECKS.sentence("Promise 20: Throws `IndexOutOfBoundsException` if there is no such place",
                () -> {
            for (int n = 2; n <= 16; n *= 2) {
                PairedChannels x = Given.received(new int[n]);
                for (int place : new int[] {-1, n, n + 1, 16, 32, LEAST, MOST}) {
                    CHECKS.throwsOf(x, "heard(" + place + ") of " + n, BOUNDS,
                            () -> x.heard(place));
                }
            }
        });
    }

    // ---- promise 21

    private static void count() {
        CHECKS.sentence("Promise 21: 0: places; 1: open ones", () -> {
            for (int k = 1; k <= 4; k++) {
                PairedChannels x = new PairedChannels();
                int n = x.begin(k);
                due("count(0)", x.count(0), n);
                due("count(1) of none", x.count(1), 0);
                x.open(n);
                due("count(1) of all", x.count(1), n);
            }
        });
        CHECKS.sentence("Promise 21: 2: body bits; 3: check bits", () -> {
            for (int open = 0; open <= 16; open++) {
                PairedChannels x = new PairedChannels();
                x.begin(4);
                x.open(open);
                for (int checkBits = 0; checkBits <= 3; checkBits++) {
                    x.set(2, checkBits);
                    due("count(2)", x.count(2), Math.max(0, open - checkBits));
                    due("count(3)", x.count(3), Math.min(open, checkBits));
                }
            }
        });
        CHECKS.sentence("Promise 21: 4: values received that are 0", () -> {
            due("count(4) of none", Given.received(1, -1).count(4), 0);
            due("count(4) of one", Given.received(0, -1).count(4), 1);
            due("count(4) of all", Given.received(0, 0).count(4), 2);
            due("count(4) of a new object", new PairedChannels().count(4), 8);
        });
        CHECKS.sentence("Promise 21: 5: the sum of the sizes of all values received", () -> {
            due("count(5) of a new object", new PairedChannels().count(5), 0);
            due("count(5) of 99, -99", Given.received(99, -99).count(5), 198);
            PairedChannels x = Given.allOpen(4, 0);
            x.set(3, 99);
            x.send(65535);
            due("count(5) of sixteen", x.count(5), 1584);
        });
        CHECKS.sentence("Promise 21: Throws `IllegalArgumentException` if what is not 0 to 8", () -> {
            PairedChannels x = new PairedChannels();
            for (int what : new int[] {-1, 9, LEAST, MOST}) {
                CHECKS.throwsOf(x, "count(" + what + ")", ARGUMENT, () -> x.count(what));
            }
        });
    }

    private static void countOfPaths() {
        CHECKS.sentence("Promise 21: 6: paths at the end; 7: paths at the end whose message is "
                + "right", () -> {
            PairedChannels x = Given.opened(0b11, 4, 0, 0);
            int[] right = {4, 2, 1, 1};
            for (int checkBits = 0; checkBits <= 3; checkBits++) {
                x.set(2, checkBits);
                due("count(6) with " + checkBits, x.count(6), 4);
                due("count(7) with " + checkBits, x.count(7), right[checkBits]);
            }
            x.set(1, 1);
            due("count(6) of one path", x.count(6), 1);
            due("count(7) of one path", x.count(7), 1);
            x.receive(1, -5);
            due("count(7) of a path that is not right", x.count(7), 0);
            x.open(0);
            x.set(1, 4);
            due("count(6) of closed places", x.count(6), 1);
            due("count(7) of closed places", x.count(7), 1);
        });
        CHECKS.sentence("Promise 21: 8: saved states", () -> {
            PairedChannels x = new PairedChannels();
            for (int states = 0; states <= 9; states++) {
                due("count(8)", x.count(8), Math.min(states, 6));
                x.flip(0);
            }
            x.undo();
            due("count(8) behind undo()", x.count(8), 5);
        });
    }

    // ---- promise 22

    private static void setting() {
        CHECKS.sentence("Promise 22: `setting`: 0 to 3", () -> {
            PairedChannels x = new PairedChannels();
            due("setting(0)", x.setting(0), 500);
            due("setting(3)", x.setting(3), 10);
            CHECKS.throwsOf(x, "setting(-1)", BOUNDS, () -> x.setting(-1));
            CHECKS.throwsOf(x, "setting(4)", BOUNDS, () -> x.setting(4));
        });
        CHECKS.sentence("Promise 22: Returns its value.", () -> {
            PairedChannels x = new PairedChannels();
            int[] first = {500, 1, 0, 10};
            int[] most = {999, 4, 3, 99};
            for (int s = 0; s < 4; s++) {
                due("setting(" + s + ")", x.setting(s), first[s]);
                x.set(s, most[s]);
                due("setting(" + s + ") behind set", x.setting(s), most[s]);
            }
        });
        CHECKS.sentence("Promise 22: Throws `IndexOutOfBoundsException` if there is no such setting",
                () -> {
            PairedChannels x = new PairedChannels();
            for (int setting : new int[] {-1, 4, 5, LEAST, MOST}) {
                CHECKS.throwsOf(x, "setting(" + setting + ")", BOUNDS, () -> x.setting(setting));
            }
        });
    }
}
