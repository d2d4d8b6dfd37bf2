/** A test for each sentence of the document's "Terms" that names a boundary case. */
public final class TermsTests {
    private static final Class<IllegalArgumentException> ARGUMENT = IllegalArgumentException.class;
    private static final Class<IllegalStateException> STATE = IllegalStateException.class;
    private static final Class<IndexOutOfBoundsException> BOUNDS = IndexOutOfBoundsException.class;
    private static final int NONE = PairedChannels.NONE;
    private static final Checks CHECKS = new Checks("sentences of the terms");

    public static void main(String[] args) {
        generalTerms();
        messageTerms();
        readingTerms();
        settingTerms();
        textTerms();
        undoTerms();
        CHECKS.end();
    }

    private static void generalTerms() {
        CHECKS.sentence("An object is used for at most 512 calls after it has been made",
                TermsTests::last512thCall);
        CHECKS.sentence("divisions are rounded down", TermsTests::roundedDown);
        CHECKS.sentence("The size of a number is the number without its sign.", TermsTests::size);
        CHECKS.sentence("A word has n places, numbered from 0; n is 2, 4, 8 or 16, at first 8: "
                + "2 to the power k, k from 1 to 4.", TermsTests::places);
        CHECKS.sentence("Each place is open or closed, at first closed.",
                TermsTests::closedAtFirst);
        CHECKS.sentence("for the steps 1, 2, 4, .. up to n / 2", TermsTests::steps);
        CHECKS.sentence("its bit becomes 1 if it and that of the place p + step are unlike, "
                + "otherwise 0 (the bit of p + step stays)", TermsTests::codedBit);
        CHECKS.sentence("(So the last step pairs both halves.)", TermsTests::lastStep);
        CHECKS.sentence("it begins with setting 0 times 1000", TermsTests::unsureAtTheEnds);
        CHECKS.sentence("from the digit for n / 2 down to that for 1", TermsTests::digitOrder);
        CHECKS.sentence("`NONE = -1`: There is nothing to return.", TermsTests::none);
    }

    private static void messageTerms() {
        CHECKS.sentence("bit j of its number is for the j-th open place, from 0, by ascending "
                + "places; closed places have 0.", TermsTests::messageBits);
        CHECKS.sentence("The last bits of it, as many as setting 2 tells, are check bits",
                TermsTests::lastBitsAreCheckBits);
        CHECKS.sentence("with no more open places than check bits there is no body, and all bits "
                + "are check bits, as many as there are open places", TermsTests::noBody);
        CHECKS.sentence("(the first of them is bit 0 of it)", TermsTests::firstCheckBit);
        CHECKS.sentence("reduced to as many binary digits as there are check bits",
                TermsTests::sumWrapsAround);
        CHECKS.sentence("A message is right if the number that its check bits make",
                TermsTests::rightMessages);
        CHECKS.sentence("Without check bits each message is right.",
                TermsTests::rightWithoutCheckBits);
        CHECKS.sentence("The word of a message is what its bits come to by coding.",
                TermsTests::wordOfMessage);
        CHECKS.sentence("For each place a value is received, -99 to 99, at first 0",
                TermsTests::receivedAtTheEnds);
        CHECKS.sentence("above 0 it speaks for a 0 in the word, below 0 for a 1",
                TermsTests::speaksFor);
    }

    private static void readingTerms() {
        CHECKS.sentence("if the rest is less than the half", TermsTests::restAndHalf);
        CHECKS.sentence("the lesser size of both, with the sign above 0 if both have the same "
                + "sign, below 0 otherwise (0 if one of them is 0)", TermsTests::lesserSize);
        CHECKS.sentence("where the coded bit j is 0, and at j + half less that at j, where it is "
                + "1", TermsTests::codedFormerHalf);
        CHECKS.sentence("The value that is left is what it hears.", TermsTests::mostThatIsHeard);
        CHECKS.sentence("Reading begins with one path without bits, with the penalty 0.",
                TermsTests::onePathAtFirst);
        CHECKS.sentence("if it is closed, each path goes on with a 0", TermsTests::closedGoesOn);
        CHECKS.sentence("if it is open, each path goes on with a 0, and, as another path, with a "
                + "1 (right behind it in the list)", TermsTests::openGoesOn);
        CHECKS.sentence("A path that goes on with a 0 while it hears a value below 0, or with a 1 "
                + "while it hears one above 0, gets a penalty more: the size of that value.",
                TermsTests::penalty);
        CHECKS.sentence("If there are more paths than setting 1 then", TermsTests::morePaths);
        CHECKS.sentence("of several those that are earlier in the list", TermsTests::earlierStay);
        CHECKS.sentence("those that stay keep their order", TermsTests::keepTheirOrder);
        CHECKS.sentence("At the end, the paths are ordered by penalties, the least first, those "
                + "with the same as they are.", TermsTests::orderedAtTheEnd);
        CHECKS.sentence("What is read is the message of the first path whose message is right; "
                + "nothing, if there is none.", TermsTests::firstRightPath);
    }

    private static void settingTerms() {
        CHECKS.sentence("0: how noisy it is, 1 to 999 thousandths, at first 500",
                () -> setting(0, 1, 999, 500));
        CHECKS.sentence("1: paths, 1 to 4, at first 1", () -> setting(1, 1, 4, 1));
        CHECKS.sentence("2: check bits, 0 to 3, at first 0", () -> setting(2, 0, 3, 0));
        CHECKS.sentence("3: the strength with which is sent, 1 to 99, at first 10",
                () -> setting(3, 1, 99, 10));
    }

    private static void textTerms() {
        CHECKS.sentence("The buffer has at most 60 characters.", TermsTests::fullBuffer);
        CHECKS.sentence("Values as a text are one or more values", TermsTests::oneValue);
        CHECKS.sentence("with \",\" between them", TermsTests::commasBetween);
        CHECKS.sentence("at most 16", TermsTests::sixteenValues);
        CHECKS.sentence("each perhaps with \"-\", 0 to 99, without leading zeros (\"-0\" is 0)",
                TermsTests::valuesAsText);
        CHECKS.sentence("if no values as a text, of any length, begin with the characters before "
                + "it and this character", TermsTests::ofAnyLength);
    }

    private static void undoTerms() {
        CHECKS.sentence("Each method that is marked \"undoable\" and does not throw an exception "
                + "saves the state from before it (also if it changes nothing)",
                TermsTests::savesAlsoNoChange);
        CHECKS.sentence("all but the buffer and the saved states", TermsTests::allButTheBuffer);
        CHECKS.sentence("At most 6 states are saved; the oldest one is dropped first.",
                TermsTests::sixStates);
        CHECKS.sentence("A call that throws an exception changes nothing.",
                TermsTests::refusedCalls);
        CHECKS.sentence("If several exceptions apply, the one that is named first in the throws "
                + "clause is thrown.", TermsTests::firstException);
    }

    private static void due(String call, long got, long want) {
        CHECKS.due(call, got, want);
    }

    private static void dueText(String call, String got, String want) {
        CHECKS.dueText(call, got, want);
    }

    // ---- what an object is

    private static void last512thCall() {
        PairedChannels flipped = new PairedChannels();
        flipped.receive(0, 5);
        for (int call = 2; call <= 511; call++) {
            flipped.flip(0);
        }
        due("place(0, 3) as the 512th call", flipped.place(0, 3), 105);
        PairedChannels undone = new PairedChannels();
        for (int call = 1; call <= 511; call++) {
            undone.roll(7);
        }
        due("undo() as the 512th call", undone.undo(), 5);
        PairedChannels asked = new PairedChannels();
        long first = asked.digest();
        for (int call = 2; call <= 511; call++) {
            asked.digest();
        }
        due("digest() as the 512th call", asked.digest(), first);
        PairedChannels refused = Given.withBuffer(Given.repeated("7", 60));
        for (int call = 61; call <= 511; call++) {
            Checks.outcome(() -> refused.append(55));
        }
        due("clearBuffer() as the 512th call", refused.clearBuffer(), 60);
    }

    private static void roundedDown() {
        PairedChannels x = new PairedChannels();
        x.set(0, 1);
        x.begin(2);
        // 1999 times 1999 is 3996001: a millionth of it is 3, and less than 4
        due("place(0, 1)", x.place(0, 1), 3995);
        due("place(1, 1)", x.place(1, 1), 3);
        // 1 times 1 is 1: a millionth of it is 0
        due("place(2, 1)", x.place(2, 1), 2);
        due("place(3, 1)", x.place(3, 1), 0);
    }

    private static void size() {
        PairedChannels x = Given.received(-99, 99);
        due("flip(0) of -99", x.flip(0), 99);
        due("flip(0) of 99", x.flip(0), 99);
        due("count(5) of -99 and 99", x.count(5), 198);
        x.receive(0, 0);
        due("flip(0) of 0", x.flip(0), 0);
        x.receive(0, -1);
        due("flip(0) of -1", x.flip(0), 1);
    }

    private static void places() {
        due("places at first", new PairedChannels().count(0), 8);
        for (int k = 1; k <= 4; k++) {
            PairedChannels x = new PairedChannels();
            x.begin(k);
            int n = 1 << k;
            due("count(0) behind begin(" + k + ")", x.count(0), n);
            due("place(0, 0) of " + n, x.place(0, 0), 0);
            due("place(" + (n - 1) + ", 0) of " + n, x.place(n - 1, 0), 0);
            for (int place : new int[] {-1, n}) {
                String of = place + " of " + n;
                CHECKS.throwsOf(x, "place " + of, BOUNDS, () -> x.place(place, 0));
                CHECKS.throwsOf(x, "toggle " + of, BOUNDS, () -> x.toggle(place));
                CHECKS.throwsOf(x, "receive " + of, BOUNDS, () -> x.receive(place, 1));
                CHECKS.throwsOf(x, "flip " + of, BOUNDS, () -> x.flip(place));
                CHECKS.throwsOf(x, "heard " + of, BOUNDS, () -> x.heard(place));
                CHECKS.throwsOf(x, "ifFlipped " + of, BOUNDS, () -> x.ifFlipped(place));
            }
        }
    }

    private static void closedAtFirst() {
        PairedChannels x = new PairedChannels();
        for (int p = 0; p < 8; p++) {
            due("place(" + p + ", 0)", x.place(p, 0), 0);
        }
        due("count(1)", x.count(1), 0);
    }

    private static void steps() {
        // the highest bit reaches just the places of the word: one step of 2, four of 16
        int[] highest = {3, 15, 255, 65535};
        int[] all = {2, 8, 128, 32768};
        for (int k = 1; k <= 4; k++) {
            PairedChannels x = new PairedChannels();
            x.begin(k);
            int n = 1 << k;
            due("code of the highest bit of " + n, x.code(1 << n - 1), highest[k - 1]);
            due("code of all bits of " + n, x.code((1 << n) - 1), all[k - 1]);
            due("code of the lowest bit of " + n, x.code(1), 1);
        }
    }

    private static void codedBit() {
        PairedChannels x = new PairedChannels();
        x.begin(1);
        int[] two = {0, 1, 3, 2};
        for (int bits = 0; bits < 4; bits++) {
            due("code(" + bits + ") of 2", x.code(bits), two[bits]);
        }
        x.begin(2);
        // 1 comes to 1, 2 to 3, 4 to 5 and 8 to 15; like bits at the same place come to 0
        int[] four = {0, 1, 3, 2, 5, 4, 6, 7, 15, 14, 12, 13, 10, 11, 9, 8};
        for (int bits = 0; bits < 16; bits++) {
            due("code(" + bits + ") of 4", x.code(bits), four[bits]);
        }
    }

    private static void lastStep() {
        int[] due = {3, 5, 17, 257};
        for (int k = 1; k <= 4; k++) {
            PairedChannels x = new PairedChannels();
            x.begin(k);
            int half = 1 << k - 1;
            due("code of the place n / 2 of " + 2 * half, x.code(1 << half), due[k - 1]);
            int former = (1 << half) - 1;
            due("code of the former half of " + 2 * half, x.code(former), 1 << half - 1);
        }
    }

    private static void unsureAtTheEnds() {
        PairedChannels x = new PairedChannels();
        x.begin(1);
        x.set(0, 1);
        due("place(0, 1) at 1", x.place(0, 1), 1999);
        due("place(1, 1) at 1", x.place(1, 1), 1);
        x.set(0, 999);
        due("place(0, 1) at 999", x.place(0, 1), 999999);
        due("place(1, 1) at 999", x.place(1, 1), 998001);
        x.begin(4);
        due("place(0, 1) of 16 at 999", x.place(0, 1), 1000000);
        due("place(15, 1) of 16 at 999", x.place(15, 1), 984113);
        x.set(0, 1);
        due("place(0, 1) of 16 at 1", x.place(0, 1), 15887);
        due("place(15, 1) of 16 at 1", x.place(15, 1), 0);
    }

    private static void digitOrder() {
        PairedChannels x = new PairedChannels();
        x.begin(2);
        // 500000 with the digits 0, 1 is 750000, then 562500; with 1, 0 it is 250000, then 437500
        due("place(1, 1) of 4", x.place(1, 1), 562500);
        due("place(2, 1) of 4", x.place(2, 1), 437500);
        x.begin(4);
        due("place(1, 1) of 16", x.place(1, 1), 992203);
        due("place(8, 1) of 16", x.place(8, 1), 899888);
        due("place(7, 1) of 16", x.place(7, 1), 100112);
    }

    private static void none() {
        due("NONE", NONE, -1);
        PairedChannels x = new PairedChannels();
        due("place(0, 4), closed", x.place(0, 4), -1);
        due("path(1, 0) of one path", x.path(1, 0), -1);
        due("weakest() of closed places", x.weakest(), -1);
    }

    // ---- messages

    private static void messageBits() {
        PairedChannels x = Given.opened(0b1010, 1, 0, 0, 0, 0);
        int[] due = {0, 3, 15, 12};
        for (int body = 0; body < 4; body++) {
            due("word(" + body + ") of the places 1 and 3", x.word(body), due[body]);
        }
        due("the first open place", x.place(1, 4), 0);
        due("the last open place", x.place(3, 4), 1);
        PairedChannels sixteen = Given.allOpen(4, 0);
        due("word(32768) of 16", sixteen.word(32768), 65535);
        due("word(1) of 16", sixteen.word(1), 1);
        due("the last open place of 16", sixteen.place(15, 4), 15);
    }

    private static void lastBitsAreCheckBits() {
        PairedChannels x = Given.allOpen(2, 0);
        int[] firstCheckBit = {4, 3, 2, 1};
        for (int checkBits = 0; checkBits <= 3; checkBits++) {
            x.set(2, checkBits);
            for (int p = 0; p < 4; p++) {
                due("place(" + p + ", 5) with " + checkBits, x.place(p, 5),
                        p >= firstCheckBit[checkBits] ? 1 : 0);
            }
        }
    }

    private static void noBody() {
        for (int open = 0; open <= 4; open++) {
            for (int checkBits = 0; checkBits <= 3; checkBits++) {
                PairedChannels x = new PairedChannels();
                x.begin(2);
                x.open(open);
                x.set(2, checkBits);
                String of = " with " + checkBits + " of " + open;
                boolean isNoBody = open <= checkBits;
                due("count(2)" + of, x.count(2), isNoBody ? 0 : open - checkBits);
                due("count(3)" + of, x.count(3), isNoBody ? open : checkBits);
                due("word(0)" + of, x.word(0), 0);
                if (isNoBody) {
                    CHECKS.throwsOf(x, "word(1)" + of, ARGUMENT, () -> x.word(1));
                    for (int p = 0; p < 4; p++) {
                        due("place(p, 5)" + of, x.place(p, 5), x.place(p, 0));
                    }
                }
            }
        }
    }

    private static void firstCheckBit() {
        PairedChannels x = Given.allOpen(3, 2);
        // the sum 1 asks for the check bit at the place 6, the sum 2 for that at 7, 3 for both
        due("word(1)", x.word(1), x.code(1 + 64));
        due("word(2)", x.word(2), x.code(2 + 128));
        due("word(3)", x.word(3), x.code(3 + 64 + 128));
        x.set(2, 3);
        due("word(8), the sum 4", x.word(8), x.code(8 + 128));
    }

    private static void sumWrapsAround() {
        // {check bits, body, what its check bits make}: the sums below, at and above 2, 4, 8
        int[][] rows = {{1, 1, 1}, {1, 2, 0}, {1, 4, 1}, {2, 4, 3}, {2, 8, 0}, {2, 16, 1},
            {3, 18, 7}, {3, 20, 0}, {3, 24, 1}, {3, 31, 7}, {2, 63, 1}, {1, 127, 0}};
        for (int[] row : rows) {
            PairedChannels x = Given.allOpen(3, row[0]);
            due("word(" + row[1] + ") with " + row[0], x.word(row[1]),
                    x.code(row[1] + (row[2] << 8 - row[0])));
        }
        PairedChannels sixteen = Given.allOpen(4, 3);
        // all thirteen body bits make 91, which is 11 times 8 and 3; without bit 2 it is 88
        due("word(8191)", sixteen.word(8191), sixteen.code(8191 + 3 * 8192));
        due("word(8187)", sixteen.word(8187), sixteen.code(8187));
    }

    private static void rightMessages() {
        // all values are 0: the paths are 0, 2, 1 and 3, with a body bit and a check bit
        PairedChannels x = Given.opened(0b11, 4, 0, 0);
        x.set(2, 1);
        dueText("paths with a check bit", Given.paths(x), "0:0! 2:0 1:0 3:0!");
        // without a body the sum is 0
        x.set(2, 2);
        dueText("paths with two check bits", Given.paths(x), "0:0! 2:0 1:0 3:0");
        due("count(7)", x.count(7), 1);
    }

    private static void rightWithoutCheckBits() {
        PairedChannels x = Given.opened(0b11, 4, 0, 0);
        dueText("paths without check bits", Given.paths(x), "0:0! 2:0! 1:0! 3:0!");
        due("count(7)", x.count(7), 4);
        // without open places there are no check bits either
        x.set(2, 3);
        x.open(0);
        dueText("paths without open places", Given.paths(x), "0:0!");
    }

    private static void wordOfMessage() {
        PairedChannels x = Given.allOpen(4, 0);
        for (int body : new int[] {0, 1, 32768, 65535, 257, 4660}) {
            due("word(" + body + ")", x.word(body), x.code(body));
        }
    }

    private static void receivedAtTheEnds() {
        PairedChannels x = new PairedChannels();
        dueText("values at first", Given.values(x), "0,0,0,0,0,0,0,0");
        x.receive(0, -99);
        x.receive(7, 99);
        dueText("values", Given.values(x), "-99,0,0,0,0,0,0,99");
        CHECKS.throwsOf(x, "receive(0, -100)", ARGUMENT, () -> x.receive(0, -100));
        CHECKS.throwsOf(x, "receive(7, 100)", ARGUMENT, () -> x.receive(7, 100));
    }

    private static void speaksFor() {
        // the one open place is 1: a 1 at it is the word 3, a 0 the word 0
        int[][] rows = {{1, 0}, {0, 0}, {-1, 1}};
        for (int[] row : rows) {
            PairedChannels x = Given.opened(0b10, 1, 0, row[0]);
            due("read(0) of " + row[0], x.read(0), row[1]);
        }
        PairedChannels closed = Given.received(1, 0, -1, -1);
        due("values that speak against the word 0", closed.read(4), 2);
    }

    // ---- reading

    private static void restAndHalf() {
        // less than the half: 3 and 7, -5 and 2 come to 3, -2; otherwise to 10, -3
        PairedChannels x = Given.received(3, -5, 7, 2);
        due("heard(0), the rest 0", x.heard(0), 9998);
        due("heard(1), the last rest below the half", x.heard(1), 10001);
        due("heard(2), the first rest that is not", x.heard(2), 9997);
        due("heard(3), the greatest rest", x.heard(3), 10007);
    }

    private static void lesserSize() {
        int[][] rows = {{5, 3, 3}, {3, 5, 3}, {-5, -3, 3}, {5, -3, -3}, {-3, 5, -3}, {4, 4, 4},
            {-4, 4, -4}, {-4, -4, 4}, {0, -3, 0}, {5, 0, 0}, {0, 5, 0}, {-5, 0, 0}, {0, 0, 0},
            {99, 99, 99}, {-99, -99, 99}, {99, -99, -99}, {1, -99, -1}};
        for (int[] row : rows) {
            PairedChannels x = Given.received(row[0], row[1]);
            due("heard(0) of " + row[0] + ", " + row[1], x.heard(0), 10000 + row[2]);
        }
    }

    private static void codedFormerHalf() {
        // 0 hears -3 and is 1, 1 hears -4 less 3 and is 1: coded that is 0, 1; what is left is
        // 5 and 3, 6 less -4
        PairedChannels x = Given.opened(0b0011, 1, 3, -4, 5, 6);
        dueText("heard", Given.heard(x), "-3,-7,8,18");
        PairedChannels zero = Given.opened(0b01, 1, 5, 3);
        dueText("heard behind a 0", Given.heard(zero), "3,8");
        PairedChannels one = Given.opened(0b01, 1, 5, -3);
        dueText("heard behind a 1", Given.heard(one), "-3,-8");
    }

    private static void mostThatIsHeard() {
        PairedChannels x = new PairedChannels();
        x.begin(4);
        x.set(3, 99);
        x.send(0);
        due("heard(15) of all 99", x.heard(15), 11584);
        due("heard(0) of all 99", x.heard(0), 10099);
        x.open(1);
        x.send(1);
        due("heard(15) of all -99", x.heard(15), 8416);
        due("heard(0) of all -99", x.heard(0), 10099);
        dueText("heard of 2", Given.heard(Given.received(-99, -99)), "99,-198");
    }

    private static void onePathAtFirst() {
        PairedChannels x = new PairedChannels();
        x.set(1, 4);
        dueText("paths of a new object", Given.paths(x), "0:0!");
        due("count(6)", x.count(6), 1);
    }

    private static void closedGoesOn() {
        PairedChannels x = Given.opened(0, 4, -9, -9);
        // a 0 while it hears 9, then a 0 while it hears -18
        dueText("paths of closed places", Given.paths(x), "0:18!");
        x.toggle(0);
        due("count(6) with an open place", x.count(6), 2);
        x.toggle(1);
        due("count(6) with two open places", x.count(6), 4);
    }

    private static void openGoesOn() {
        dueText("paths of 2", Given.paths(Given.opened(0b11, 4, 0, 0)), "0:0! 2:0! 1:0! 3:0!");
        dueText("paths of 4", Given.paths(Given.opened(0b1001, 4, 0, 0, 0, 0)),
                "0:0! 2:0! 1:0! 3:0!");
    }

    private static void penalty() {
        // the place 0 hears 0, the place 1 the value that is received for it
        dueText("paths of -1", Given.paths(Given.opened(0b10, 2, 0, -1)), "1:0! 0:1!");
        dueText("paths of 0", Given.paths(Given.opened(0b10, 2, 0, 0)), "0:0! 1:0!");
        dueText("paths of 1", Given.paths(Given.opened(0b10, 2, 0, 1)), "0:0! 1:1!");
        dueText("paths of -99", Given.paths(Given.opened(0b10, 2, 0, -99)), "1:0! 0:99!");
        dueText("paths of 99", Given.paths(Given.opened(0b10, 2, 0, 99)), "0:0! 1:99!");
        // a closed place: a 0 while it hears -3, then a 0 while it hears -2
        dueText("paths of 3, -5", Given.paths(Given.opened(0, 1, 3, -5)), "0:5!");
    }

    private static void morePaths() {
        int[] open = {0b000, 0b100, 0b110, 0b111};
        int[] made = {1, 2, 4, 8};
        for (int i = 0; i < open.length; i++) {
            for (int paths = 1; paths <= 4; paths++) {
                PairedChannels x = Given.opened(open[i], paths, 0, 0, 0, 0);
                due("count(6) of " + made[i] + " and " + paths, x.count(6),
                        Math.min(made[i], paths));
            }
        }
    }

    private static void earlierStay() {
        String[] due = {"0:0!", "0:0! 4:0!", "0:0! 4:0! 2:0!", "0:0! 4:0! 2:0! 6:0!"};
        for (int paths = 1; paths <= 4; paths++) {
            PairedChannels x = Given.opened(0b1110, paths, 0, 0, 0, 0);
            dueText("paths of " + paths, Given.paths(x), due[paths - 1]);
        }
        // the penalties are 1, 1, 2 and 0: 0 stays, and of both with 1 the earlier one
        PairedChannels two = Given.opened(0b11, 2, 1, -1);
        dueText("paths of 1, -1", Given.paths(two), "3:0! 0:1!");
    }

    private static void keepTheirOrder() {
        // behind the place 1 the penalties are 1, 1, 2, 0: the first and the last one stay; at
        // the end both have 3, and the one that was earlier is the first one
        PairedChannels x = Given.opened(0b1011, 2, 1, 1, 2, -3);
        dueText("paths", Given.paths(x), "0:3! 7:3!");
    }

    private static void orderedAtTheEnd() {
        dueText("paths of 3, -5, 7, 2", Given.paths(Given.opened(0b1100, 4, 3, -5, 7, 2)),
                "3:2! 0:5! 2:12! 1:15!");
        dueText("paths of the same penalty", Given.paths(Given.opened(0b11, 4, 0, 0)),
                "0:0! 2:0! 1:0! 3:0!");
    }

    private static void firstRightPath() {
        // the paths are 3:2, 0:5, 2:12 and 1:15
        PairedChannels x = Given.opened(0b1100, 4, 3, -5, 7, 2);
        dueText("read with the first path", Given.read(x), "3,3,0,2,1");
        x.set(2, 2);
        dueText("read with the second path", Given.read(x), "0,0,1,5,1");
        x.set(1, 1);
        dueText("read of nothing", Given.read(x), "-1,-1,-1,-1,-1");
        // the last of four paths is the right one
        PairedChannels last = Given.opened(0b11, 4, -2, -3);
        last.set(2, 2);
        dueText("paths of -2, -3", Given.paths(last), "2:0 3:2 1:3 0:5!");
        dueText("read with the last path", Given.read(last), "0,0,3,5,2");
    }

    // ---- settings

    private static void setting(int setting, int least, int most, int first) {
        PairedChannels x = new PairedChannels();
        String call = "set(" + setting + ", ";
        due("setting(" + setting + ") at first", x.setting(setting), first);
        due(call + "least)", x.set(setting, least), first);
        due("setting(" + setting + ")", x.setting(setting), least);
        due(call + "most)", x.set(setting, most), least);
        due("setting(" + setting + ")", x.setting(setting), most);
        int[] wrong = {least - 1, most + 1, -least - 1, Integer.MIN_VALUE, Integer.MAX_VALUE};
        for (int value : wrong) {
            CHECKS.throwsOf(x, call + value + ")", ARGUMENT, () -> x.set(setting, value));
        }
    }

    // ---- texts

    private static void fullBuffer() {
        PairedChannels x = Given.withBuffer(Given.repeated("7", 59));
        due("append as the 60th", x.append(55), 60);
        CHECKS.throwsOf(x, "append as the 61st", STATE, () -> x.append(55));
        due("the length", x.clearBuffer(), 60);
        due("append behind clearBuffer", x.append(55), 1);
    }

    private static void oneValue() {
        PairedChannels empty = new PairedChannels();
        CHECKS.throwsOf(empty, "receiveAll of no value", ARGUMENT, empty::receiveAll);
        PairedChannels one = Given.withBuffer("5");
        due("receiveAll of one value", one.receiveAll(), 1);
    }

    private static void commasBetween() {
        for (String text : new String[] {",", ",1", "1,", "1,,2", "1;2", "1-2"}) {
            PairedChannels x = Given.withBuffer(text);
            CHECKS.throwsOf(x, "receiveAll of " + text, ARGUMENT, x::receiveAll);
        }
        due("receiveAll of 1,2", Given.withBuffer("1,2").receiveAll(), 2);
    }

    private static void sixteenValues() {
        String fifteen = Given.repeated("1,", 15);
        PairedChannels x = Given.withBuffer(fifteen + "1");
        x.begin(4);
        due("firstError of 16 values", x.firstError(), 31);
        due("receiveAll of 16 values", x.receiveAll(), 16);
        PairedChannels more = Given.withBuffer(fifteen + "1,");
        more.begin(4);
        due("firstError of the 16th comma", more.firstError(), 31);
        CHECKS.throwsOf(more, "receiveAll of 16 and a comma", ARGUMENT, more::receiveAll);
        more.append('1');
        due("firstError of 17 values", more.firstError(), 31);
        CHECKS.throwsOf(more, "receiveAll of 17 values", ARGUMENT, more::receiveAll);
    }

    private static void valuesAsText() {
        String[] right = {"0", "-0", "1", "-1", "9", "-9", "10", "-10", "99", "-99"};
        int[] value = {0, 0, 1, -1, 9, -9, 10, -10, 99, -99};
        for (int i = 0; i < right.length; i++) {
            PairedChannels x = Given.withBuffer(right[i]);
            due("receiveAll of " + right[i], x.receiveAll(), 1);
            due("the value of " + right[i], x.place(0, 3), 100 + value[i]);
        }
        String[] wrong = {"-", "00", "01", "09", "-00", "-01", "-09", "100", "-100", "999", "--1",
            "+1", "1-", "0-"};
        for (String text : wrong) {
            PairedChannels x = Given.withBuffer(text);
            CHECKS.throwsOf(x, "receiveAll of " + text, ARGUMENT, x::receiveAll);
        }
    }

    private static void ofAnyLength() {
        // what is begun here can be ended only behind the 60th character
        String comma = Given.repeated("-99,", 15);
        due("firstError of a comma as the 60th", Given.withBuffer(comma).firstError(), 60);
        String sign = Given.repeated("-99,", 14) + "99,-";
        due("firstError of a - as the 60th", Given.withBuffer(sign).firstError(), 60);
        String wrong = Given.repeated("-99,", 14) + "-99-";
        due("firstError in the 60th", Given.withBuffer(wrong).firstError(), 59);
        String seventeen = Given.repeated("-99,", 14) + "1,9,";
        due("firstError of the 16th comma", Given.withBuffer(seventeen).firstError(), 59);
        // sixteen values that fill the buffer
        String full = Given.repeated("-10,", 13) + "10,10,10";
        PairedChannels x = Given.withBuffer(full);
        x.begin(4);
        due("firstError of a full buffer", x.firstError(), 60);
        due("receiveAll of a full buffer", x.receiveAll(), 16);
    }

    // ---- undo

    private interface Change {
        void on(PairedChannels x);
    }

    private static void savesAlsoNoChange() {
        Change[] changes = {x -> x.begin(3), x -> x.open(0), x -> x.set(0, 500),
            x -> x.set(1, 1), x -> x.set(2, 0), x -> x.set(3, 10), x -> x.receive(3, 0),
            x -> x.flip(7), x -> x.roll(0), x -> x.roll(7)};
        for (int i = 0; i < changes.length; i++) {
            PairedChannels x = new PairedChannels();
            changes[i].on(x);
            due("saved states behind the change " + i, x.count(8), 1);
            due("undo() of the change " + i, x.undo(), 0);
            due("digest() then", x.digest(), new PairedChannels().digest());
        }
        PairedChannels sent = new PairedChannels();
        sent.send(0);
        sent.send(0);
        due("saved states behind send twice", sent.count(8), 2);
        PairedChannels told = Given.withBuffer("0");
        told.receiveAll();
        due("saved states behind receiveAll", told.count(8), 1);
    }

    private static void allButTheBuffer() {
        PairedChannels x = Given.withBuffer("12");
        x.flip(0);
        x.clearBuffer();
        Given.write(x, "3,4");
        x.undo();
        due("receiveAll behind undo", x.receiveAll(), 2);
        dueText("values", Given.values(x), "3,4,0,0,0,0,0,0");
        due("undo() of receiveAll", x.undo(), 0);
        due("the buffer behind undo of receiveAll", x.clearBuffer(), 0);
        Change[] notSaved = {y -> y.append(49), PairedChannels::clearBuffer,
            PairedChannels::firstError};
        for (Change change : notSaved) {
            change.on(x);
            due("saved states behind a change of the buffer", x.count(8), 0);
        }
    }

    private static void sixStates() {
        for (int changes : new int[] {1, 5, 6, 7, 12, 13, 14}) {
            PairedChannels x = new PairedChannels();
            for (int value = 1; value <= changes; value++) {
                x.receive(0, value);
            }
            int saved = Math.min(changes, 6);
            due("saved states behind " + changes, x.count(8), saved);
            for (int i = 1; i <= saved; i++) {
                due("undo() " + i + " of " + changes, x.undo(), saved - i);
                due("the value then", x.place(0, 3), 100 + changes - i);
            }
            CHECKS.throwsOf(x, "undo() of none", STATE, x::undo);
        }
        // a state that is dropped does not come back behind undo and further changes
        PairedChannels again = new PairedChannels();
        for (int value = 1; value <= 8; value++) {
            again.receive(0, value);
        }
        again.undo();
        again.undo();
        for (int value = 11; value <= 14; value++) {
            again.receive(0, value);
        }
        int[] due = {113, 112, 111, 106, 105, 104};
        for (int i = 0; i < due.length; i++) {
            due("undo() behind undo and changes", again.undo(), 5 - i);
            due("the value then", again.place(0, 3), due[i]);
        }
    }

    // ---- exceptions

    private static PairedChannels withHistory() {
        PairedChannels x = Given.opened(0b1100, 2, 3, -5, 7, 2);
        x.set(2, 1);
        x.send(1);
        x.flip(3);
        Given.write(x, "1,2,3,4,5");
        return x;
    }

    private static void refusedCalls() {
        Change[] refused = {x -> x.begin(0), x -> x.begin(5), x -> x.open(-1), x -> x.open(17),
            x -> x.open(5), x -> x.toggle(-1), x -> x.toggle(4), x -> x.set(-1, 1),
            x -> x.set(4, 1), x -> x.set(0, 0), x -> x.set(0, 1000), x -> x.send(-1),
            x -> x.send(2), x -> x.receive(-1, 1), x -> x.receive(4, 1), x -> x.receive(0, -100),
            x -> x.receive(0, 100), x -> x.flip(-1), x -> x.flip(4), x -> x.roll(-1),
            x -> x.roll(4), x -> x.append(32), x -> x.append(127), x -> x.receiveAll(),
            x -> x.place(4, 0), x -> x.place(0, 6), x -> x.code(-1), x -> x.code(65536),
            x -> x.word(-1), x -> x.word(2), x -> x.read(-1), x -> x.read(5), x -> x.path(-1, 0),
            x -> x.path(0, 3), x -> x.heard(4), x -> x.count(9), x -> x.setting(4),
            x -> x.ifFlipped(4), x -> x.ifPaths(0), x -> x.ifPaths(5)};
        String before = Given.history(withHistory());
        for (int i = 0; i < refused.length; i++) {
            PairedChannels x = withHistory();
            Change change = refused[i];
            String outcome = Checks.outcome(() -> {
                change.on(x);
                return 0;
            });
            due("the call " + i + " throws", outcome.startsWith("throws") ? 1 : 0, 1);
            dueText("all behind the call " + i, Given.history(x), before);
        }
        // a text that is no values, and undo without a saved state
        PairedChannels text = Given.withBuffer("1,x");
        CHECKS.throwsOf(text, "receiveAll of 1,x", ARGUMENT, text::receiveAll);
        CHECKS.throwsOf(text, "undo of none", STATE, text::undo);
        due("the buffer then", text.clearBuffer(), 3);
    }

    private static void firstException() {
        PairedChannels x = Given.withBuffer("1,2,3,4,5,6,7,8,9,");
        CHECKS.throwsOf(x, "open(17)", ARGUMENT, () -> x.open(17));
        CHECKS.throwsOf(x, "set(4, 0)", BOUNDS, () -> x.set(4, 0));
        CHECKS.throwsOf(x, "set(-1, 1000)", BOUNDS, () -> x.set(-1, 1000));
        CHECKS.throwsOf(x, "receive(8, 100)", BOUNDS, () -> x.receive(8, 100));
        CHECKS.throwsOf(x, "receive(-1, -100)", BOUNDS, () -> x.receive(-1, -100));
        CHECKS.throwsOf(x, "place(8, 6)", BOUNDS, () -> x.place(8, 6));
        CHECKS.throwsOf(x, "place(-1, -1)", BOUNDS, () -> x.place(-1, -1));
        CHECKS.throwsOf(x, "receiveAll of no values, of nine", ARGUMENT, x::receiveAll);
        PairedChannels full = Given.withBuffer(Given.repeated("1", 60));
        CHECKS.throwsOf(full, "append(32) to 60", ARGUMENT, () -> full.append(32));
        CHECKS.throwsOf(full, "append(127) to 60", ARGUMENT, () -> full.append(127));
        CHECKS.throwsOf(full, "append(33) to 60", STATE, () -> full.append(33));
    }
}
