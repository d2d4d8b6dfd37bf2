/** A test for each sentence of the promises 23 to 28 that names a boundary case. */
public final class WouldBeTests {
    private static final Class<IllegalArgumentException> ARGUMENT = IllegalArgumentException.class;
    private static final Class<IndexOutOfBoundsException> BOUNDS = IndexOutOfBoundsException.class;
    private static final int LEAST = Integer.MIN_VALUE;
    private static final int MOST = Integer.MAX_VALUE;
    private static final int NONE = PairedChannels.NONE;
    private static final Checks CHECKS = new Checks("sentences of the promises 23 to 28");

    public static void main(String[] args) {
        ifFlipped();
        ifPaths();
        weakest();
        borne();
        unsureShare();
        digest();
        CHECKS.end();
    }

    private static void due(String call, long got, long want) {
        CHECKS.due(call, got, want);
    }

    private static void dueText(String call, String got, String want) {
        CHECKS.dueText(call, got, want);
    }

    /** The open place 1 is for a check bit: it is right as a 0, and with a 1 nothing is read. */
    private static PairedChannels checkedPlace(int paths, int first, int second) {
        PairedChannels x = Given.opened(0b10, paths, first, second);
        x.set(2, 1);
        return x;
    }

    /** Sixteen places with 1, but the last one, which is the only open one. */
    private static PairedChannels sixteen(int last) {
        PairedChannels x = new PairedChannels();
        x.begin(4);
        x.set(3, 1);
        x.send(0);
        x.receive(15, last);
        x.toggle(15);
        return x;
    }

    private static String ifFlippedAll(PairedChannels x) {
        StringBuilder text = new StringBuilder();
        for (int p = 0; p < x.count(0); p++) {
            text.append(p == 0 ? "" : ",").append(x.ifFlipped(p));
        }
        return text.toString();
    }

    // ---- promise 23

    private static void ifFlipped() {
        CHECKS.sentence("Promise 23: Tells what would be read with another sign at a place.", () -> {
            dueText("ifFlipped of 5, 3", ifFlippedAll(Given.opened(0b10, 1, 5, 3)), "1,0");
            dueText("ifFlipped of 0, 5", ifFlippedAll(Given.opened(0b10, 1, 0, 5)), "0,1");
            dueText("ifFlipped of 0, 0", ifFlippedAll(Given.opened(0b10, 1, 0, 0)), "0,0");
            dueText("ifFlipped of 0, -5", ifFlippedAll(Given.opened(0b10, 1, 0, -5)), "1,0");
            due("ifFlipped(14) of 16", sixteen(16).ifFlipped(14), 0);
            due("ifFlipped(15) of 16", sixteen(16).ifFlipped(15), 1);
        });
        CHECKS.sentence("Promise 23: what would be; nothing is changed", () -> {
            PairedChannels x = Given.opened(0b10, 1, 5, 3);
            String before = Given.history(Given.opened(0b10, 1, 5, 3));
            x.ifFlipped(0);
            x.ifFlipped(1);
            due("read(0) behind ifFlipped", x.read(0), 0);
            dueText("values behind ifFlipped", Given.values(x), "5,3");
            dueText("all behind ifFlipped", Given.history(x), before);
        });
        CHECKS.sentence("Promise 23: Returns the message that would be read behind flip(place); NONE "
                + "if nothing would be.", () -> {
            // to nothing, from nothing, and nothing as before
            dueText("ifFlipped of 0, 5", ifFlippedAll(checkedPlace(1, 0, 5)), "0,-1");
            dueText("ifFlipped of 0, -5", ifFlippedAll(checkedPlace(1, 0, -5)), "-1,0");
            dueText("ifFlipped with two paths", ifFlippedAll(checkedPlace(2, 0, -5)), "0,0");
            PairedChannels x = Given.opened(0b1100, 2, 3, -5, 7, 2);
            x.set(2, 1);
            for (int p = 0; p < 4; p++) {
                int would = x.ifFlipped(p);
                x.flip(p);
                due("read(0) behind flip(" + p + ")", x.read(0), would);
                x.undo();
            }
        });
        CHECKS.sentence("Promise 23: Throws `IndexOutOfBoundsException` if there is no such place",
                () -> {
            for (int n = 2; n <= 16; n *= 2) {
                PairedChannels x = Given.received(new int[n]);
                for (int place : new int[] {-1, n, n + 1, 16, 31, 32, LEAST, MOST}) {
                    CHECKS.throwsOf(x, "ifFlipped(" + place + ") of " + n, BOUNDS,
                            () -> x.ifFlipped(place));
                }
            }
        });
    }

    // ---- promise 24

    private static void ifPaths() {
        CHECKS.sentence("Promise 24: `paths`: 1 to 4", () -> {
            // the paths of -2, -3 are 2:0, 3:2, 1:3 and 0:5; only 0 is right without a body
            PairedChannels x = Given.opened(0b11, 1, -2, -3);
            x.set(2, 2);
            int[] due = {NONE, NONE, NONE, 0};
            for (int setting = 1; setting <= 4; setting++) {
                x.set(1, setting);
                for (int paths = 1; paths <= 4; paths++) {
                    due("ifPaths(" + paths + ") of " + setting, x.ifPaths(paths), due[paths - 1]);
                }
                due("read(0) of " + setting, x.read(0), due[setting - 1]);
            }
        });
        CHECKS.sentence("Promise 24: Returns the message that would be read with setting 1 as this; "
                + "NONE if nothing would be.", () -> {
            PairedChannels nothing = checkedPlace(2, 0, -5);
            due("ifPaths(1) to nothing", nothing.ifPaths(1), NONE);
            due("ifPaths(2) as it is", nothing.ifPaths(2), 0);
            PairedChannels something = checkedPlace(1, 0, -5);
            due("ifPaths(1), nothing as it is", something.ifPaths(1), NONE);
            due("ifPaths(2) from nothing", something.ifPaths(2), 0);
            due("setting(1) then", something.setting(1), 1);
            due("read(0) then", something.read(0), NONE);
            due("count(6) then", something.count(6), 1);
            for (int paths = 1; paths <= 4; paths++) {
                due("ifPaths(" + paths + ") of a new object", new PairedChannels().ifPaths(paths),
                        0);
            }
        });
        CHECKS.sentence("Promise 24: Throws `IllegalArgumentException` if paths is out of range",
                () -> {
            PairedChannels x = checkedPlace(4, 0, -5);
            for (int paths : new int[] {0, 5, -1, 8, LEAST, MOST}) {
                CHECKS.throwsOf(x, "ifPaths(" + paths + ")", ARGUMENT, () -> x.ifPaths(paths));
            }
        });
    }

    // ---- promise 25

    private static void weakest() {
        CHECKS.sentence("Promise 25: Returns the lowest place whose other sign would change what is "
                + "read", () -> {
            due("weakest() of 5, 3", Given.opened(0b10, 1, 5, 3).weakest(), 0);
            due("weakest() of 3, 5", Given.opened(0b10, 1, 3, 5).weakest(), 1);
            // both would change it
            due("weakest() of 4, 4, -1, -1", Given.opened(0b1000, 1, 4, 4, -1, -1).weakest(), 0);
            due("weakest() of the last place", sixteen(16).weakest(), 15);
            due("weakest() of 0, 5, 0, 0", Given.opened(0b1000, 1, 0, 5, 0, 0).weakest(), 1);
        });
        CHECKS.sentence("Promise 25: (also to nothing, or from nothing)", () -> {
            due("weakest() to nothing", checkedPlace(1, 0, 5).weakest(), 1);
            due("weakest() to nothing at 0", checkedPlace(1, 5, 3).weakest(), 0);
            due("weakest() from nothing", checkedPlace(1, 0, -5).weakest(), 1);
            due("weakest() from nothing at 0", checkedPlace(1, -5, -3).weakest(), 0);
            PairedChannels stays = Given.opened(0b11, 1, -2, -3);
            stays.set(2, 2);
            due("weakest() where nothing stays nothing", stays.weakest(), NONE);
        });
        CHECKS.sentence("Promise 25: NONE if there is none", () -> {
            due("weakest() of a new object", new PairedChannels().weakest(), NONE);
            due("weakest() of zeros", Given.opened(0b10, 1, 0, 0).weakest(), NONE);
            due("weakest() of closed places", Given.opened(0, 4, 5, -5).weakest(), NONE);
            // the place 15 hears 30, and with another sign at it 0, where the 0 stays
            due("weakest() of sixteen", sixteen(15).weakest(), NONE);
            due("weakest() with two paths", checkedPlace(2, 0, -5).weakest(), NONE);
        });
        CHECKS.sentence("Promise 25: what would be; nothing is changed", () -> {
            PairedChannels x = checkedPlace(1, -5, -3);
            x.weakest();
            dueText("values behind weakest()", Given.values(x), "-5,-3");
            due("read(0) behind weakest()", x.read(0), NONE);
        });
    }

    // ---- promise 26

    private static void borne() {
        CHECKS.sentence("Promise 26: Returns in how many places, by ascending numbers from the place "
                + "0 on, all flipped together, the signs can be changed so that the same is read as "
                + "now", () -> {
            due("borne() of none", Given.opened(0b10, 1, 5, 3).borne(), 0);
            due("borne() of one", Given.opened(0b10, 1, 3, 5).borne(), 1);
            due("borne() of all", Given.opened(0b10, 1, 0, 0).borne(), 2);
            due("borne() of a new object", new PairedChannels().borne(), 8);
            due("borne() of all but the last", sixteen(16).borne(), 15);
            // together they come to 0 with two of four, and below 0 with three
            due("borne() of 1, 1, 1, 1", Given.opened(0b1000, 1, 1, 1, 1, 1).borne(), 2);
            PairedChannels closed = new PairedChannels();
            for (int k = 1; k <= 4; k++) {
                due("borne() of closed places", closed.begin(k), closed.borne());
            }
        });
        CHECKS.sentence("Promise 26: (also if that is nothing)", () -> {
            due("borne() of nothing, none", checkedPlace(1, -5, -3).borne(), 0);
            due("borne() of nothing, one", checkedPlace(1, -3, -5).borne(), 1);
            due("borne() of nothing, all but the last", checkedPlace(1, 0, -5).borne(), 1);
            // only the message 0 is right: it is 3 that is first now, then 2, then 1
            PairedChannels all = Given.opened(0b11, 1, 4, -5);
            all.set(2, 2);
            due("read(0) of nothing", all.read(0), NONE);
            due("borne() of nothing, all", all.borne(), 2);
        });
        CHECKS.sentence("Promise 26: it is asked for 1, 2, 3 places and so on, up to the first time "
                + "that it is otherwise", () -> {
            // the place 3 hears 3; with the place 0 flipped -5, with 0 and 1 flipped 1 again
            due("borne() of 4, -3, 1, 1", Given.opened(0b1000, 1, 4, -3, 1, 1).borne(), 0);
            // 3, then 1, -7, and 1 again
            due("borne() of 1, 4, -4, 2", Given.opened(0b1000, 1, 1, 4, -4, 2).borne(), 1);
        });
        CHECKS.sentence("Promise 26: what would be; nothing is changed", () -> {
            PairedChannels x = Given.opened(0b1000, 1, 1, 4, -4, 2);
            x.borne();
            dueText("values behind borne()", Given.values(x), "1,4,-4,2");
            dueText("read behind borne()", Given.read(x), "0,0,0,4,1");
        });
    }

    // ---- promise 27

    private static void dueShare(String of, PairedChannels x, double share) {
        CHECKS.dueShare("unsureShare() of " + of, x.unsureShare(), share);
    }

    private static void unsureShare() {
        CHECKS.sentence("Promise 27: Returns the sum of how unsure the open places are, as a double, "
                + "divided by the product of 1000000 and their number as doubles", () -> {
            PairedChannels x = new PairedChannels();
            x.begin(2);
            x.open(1);
            dueShare("one", x, 62500.0 / 1000000.0);
            x.open(3);
            dueShare("three", x, 1062500.0 / 3000000.0);
            x.open(4);
            dueShare("all", x, 2000000.0 / 4000000.0);
            x.set(0, 999);
            x.toggle(3);
            x.toggle(2);
            x.toggle(1);
            dueShare("a place that is quite unsure", x, 1.0);
            x.set(0, 1);
            x.open(1);
            dueShare("a place that is quite sure", x, 0.0);
            x.begin(1);
            x.open(1);
            dueShare("a millionth", x, 1.0 / 1000000.0);
            PairedChannels sixteen = Given.allOpen(4, 0);
            sixteen.set(0, 1);
            // 15887, 63, 30, 12 and 8: no other place is unsure
            dueShare("sixteen", sixteen, 16000.0 / 16000000.0);
        });
        CHECKS.sentence("Promise 27: 0.0 without one", () -> {
            PairedChannels x = new PairedChannels();
            dueShare("a new object", x, 0.0);
            x.open(8);
            x.open(0);
            dueShare("places that are closed again", x, 0.0);
            for (int k = 1; k <= 4; k++) {
                x.begin(k);
                dueShare("closed places", x, 0.0);
            }
        });
    }

    // ---- promise 28

    private static void digest() {
        // these were worked out by a program in another language, from the document alone
        CHECKS.sentence("Promise 28: The hash starts at 2797. For each value v of the following "
                + "list, in order, the hash becomes 31 * hash + v, in long arithmetic with overflow.",
                () -> {
            due("digest() of a new object", new PairedChannels().digest(), -8252208402791882873L);
            PairedChannels x = Given.allOpen(4, 0);
            x.set(1, 4);
            x.set(2, 3);
            x.set(3, 99);
            x.send(8191);
            due("saved states", x.count(8), 6);
            due("digest() of sixteen places, four paths", x.digest(), -5345321550750629211L);
        });
        CHECKS.sentence("Promise 28: read with 0 to 4; for the ranks 0 to 3 path with 0 to 2", () -> {
            // nothing is read, and there is one path of four
            PairedChannels x = new PairedChannels();
            x.begin(1);
            x.receive(1, -5);
            x.toggle(1);
            x.set(2, 1);
            due("digest() of nothing", x.digest(), 6243400977078451529L);
        });
        CHECKS.sentence("Promise 28: the bits of unsureShare (as Double.doubleToLongBits)", () -> {
            PairedChannels most = new PairedChannels();
            most.begin(4);
            most.set(0, 999);
            most.toggle(0);
            due("digest() of the share 1.0", most.digest(), 8919188680586496549L);
            PairedChannels none = new PairedChannels();
            none.set(0, 1);
            none.toggle(7);
            due("digest() of the share 0.0", none.digest(), -7689024624162108428L);
            PairedChannels least = new PairedChannels();
            least.begin(1);
            least.set(0, 1);
            least.toggle(1);
            due("digest() of a millionth", least.digest(), 4206403996463878645L);
        });
        CHECKS.sentence("Promise 28: the length of the buffer and each of its character codes",
                () -> {
            PairedChannels x = new PairedChannels();
            x.append(126);
            due("digest() with one character", x.digest(), 2435956545385353718L);
            x.clearBuffer();
            due("digest() of a cleared buffer", x.digest(), -8252208402791882873L);
            Given.write(x, Given.repeated("-99,", 15));
            due("digest() of a full buffer", x.digest(), -8433146688503945228L);
        });
        CHECKS.sentence("Promise 28: what would be; nothing is changed", () -> {
            PairedChannels x = checkedPlace(2, 3, -5);
            Given.write(x, "1,x");
            long first = x.digest();
            due("digest() twice", x.digest(), first);
            due("the buffer behind digest()", x.clearBuffer(), 3);
        });
    }
}
