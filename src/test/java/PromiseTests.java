/** One method for each promise of the document; what is due was worked out by hand from its words. */
public final class PromiseTests {
    private static final Class<IllegalArgumentException> ARGUMENT = IllegalArgumentException.class;
    private static final Class<IllegalStateException> STATE = IllegalStateException.class;
    private static final Class<IndexOutOfBoundsException> BOUNDS = IndexOutOfBoundsException.class;
    private static final int LEAST = Integer.MIN_VALUE;
    private static final int MOST = Integer.MAX_VALUE;
    private static final int NONE = PairedChannels.NONE;
    private static final int[] UNSURE_8 =
            {996094, 878906, 808594, 316406, 683594, 191406, 121094, 3906};

    private static Checks checks;

    public static void main(String[] args) {
        checks = new Checks("promises 1 to 28");
        newObject();
        begin();
        open();
        toggle();
        set();
        send();
        receive();
        flip();
        roll();
        append();
        clearBuffer();
        firstError();
        receiveAll();
        undo();
        place();
        code();
        word();
        read();
        path();
        heard();
        count();
        setting();
        ifFlipped();
        ifPaths();
        weakest();
        borne();
        unsureShare();
        digest();
        savesBeforeEachUndoable();
        savesNothingWhenThrowing();
        looksChangeNothing();
        checks.end();
    }

    private static void dueValues(String behind, PairedChannels x, int... values) {
        checks.due("places behind " + behind, x.count(0), values.length);
        for (int p = 0; p < values.length; p++) {
            checks.due("place(" + p + ", 3) behind " + behind, x.place(p, 3), values[p] + 100);
        }
    }

    /** Four places that hear 3, -5, 7, 2; the places 2 and 3 are open. */
    private static PairedChannels fourPlaces() {
        PairedChannels x = new PairedChannels();
        x.begin(2);
        x.receive(0, 3);
        x.receive(1, -5);
        x.receive(2, 7);
        x.receive(3, 2);
        x.toggle(2);
        x.toggle(3);
        return x;
    }

    /** Two places with these values; the place 1 is open. */
    private static PairedChannels twoPlaces(int first, int second) {
        PairedChannels x = new PairedChannels();
        x.begin(1);
        x.receive(0, first);
        x.receive(1, second);
        x.toggle(1);
        return x;
    }

    private static void newObject() {
        PairedChannels x = new PairedChannels();
        checks.due("NONE", PairedChannels.NONE, -1);
        dueValues("new", x, 0, 0, 0, 0, 0, 0, 0, 0);
        checks.due("open places", Given.openMask(x), 0);
        checks.due("setting 0", x.setting(0), 500);
        checks.due("setting 1", x.setting(1), 1);
        checks.due("setting 2", x.setting(2), 0);
        checks.due("setting 3", x.setting(3), 10);
        checks.due("saved states", x.count(8), 0);
        checks.due("length of the buffer", x.clearBuffer(), 0);
        checks.throwsOf(x, "undo() of a new object", STATE, x::undo);
    }

    private static void begin() {
        PairedChannels x = new PairedChannels();
        x.set(0, 123);
        x.set(1, 3);
        x.set(2, 2);
        x.set(3, 45);
        for (int k = 4; k >= 1; k--) {
            int n = 1 << k;
            int asked = k;
            checks.due("begin(" + k + ")", x.begin(k), n);
            dueValues("begin(" + k + ")", x, new int[n]);
            checks.due("open places behind begin", Given.openMask(x), 0);
            checks.due("the place n", x.place(n - 1, 0), 0);
            checks.throwsOf(x, "place(n, 0)", BOUNDS, () -> x.place(1 << asked, 0));
            x.open(n);
            for (int p = 0; p < n; p++) {
                x.receive(p, 9);
            }
        }
        x.begin(4);
        dueValues("begin(4) behind begin(1)", x, new int[16]);
        checks.due("open places behind begin(4)", x.count(1), 0);
        checks.due("setting 0 stays", x.setting(0), 123);
        checks.due("setting 1 stays", x.setting(1), 3);
        checks.due("setting 2 stays", x.setting(2), 2);
        checks.due("setting 3 stays", x.setting(3), 45);
        Given.write(x, "1,2");
        x.begin(3);
        checks.due("the buffer stays", x.clearBuffer(), 3);
        for (int k : new int[] {0, 5, -1, 32, 33, LEAST, MOST}) {
            checks.throwsOf(x, "begin(" + k + ")", ARGUMENT, () -> x.begin(k));
        }
    }

    private static void open() {
        PairedChannels x = new PairedChannels();
        int[] masks = {0, 128, 192, 224, 232, 248, 252, 254, 255};
        for (int many = 0; many <= 8; many++) {
            checks.due("open(" + many + ")", x.open(many), masks[many]);
            checks.due("open places behind open", Given.openMask(x), masks[many]);
        }
        x.open(0);
        x.toggle(0);
        checks.due("open(2) closes others", x.open(2), 192);
        checks.due("open places behind open(2)", Given.openMask(x), 192);
        x.receive(3, -7);
        x.open(5);
        dueValues("open", x, 0, 0, 0, -7, 0, 0, 0, 0);
        for (int many : new int[] {9, 15, 16}) {
            checks.throwsOf(x, "open(" + many + ") of 8", STATE, () -> x.open(many));
        }
        for (int many : new int[] {-1, 17, LEAST, MOST}) {
            checks.throwsOf(x, "open(" + many + ")", ARGUMENT, () -> x.open(many));
        }
        // 7975, 15, 6, 0, 4, 0, 0, 0: four places are as unsure
        x.set(0, 1);
        int[] least = {0, 128, 192, 224, 232, 248, 252, 254, 255};
        for (int many = 0; many <= 8; many++) {
            checks.due("open(" + many + ") at 1", x.open(many), least[many]);
        }
        x.begin(1);
        checks.due("open(1) of 2", x.open(1), 2);
        checks.due("open(2) of 2", x.open(2), 3);
        checks.throwsOf(x, "open(3) of 2", STATE, () -> x.open(3));
        x.begin(4);
        checks.due("open(16) of 16", x.open(16), 65535);
        checks.due("open(1) of 16", x.open(1), 32768);
        x.set(0, 500);
        checks.due("open(9) of 16", x.open(9), 65216);
        x.set(0, 999);
        checks.due("open places stay when the noise changes", Given.openMask(x), 65216);
        // with 999 the place 0 is as unsure as 1 and others, and comes last
        checks.due("open(15) at 999", x.open(15), 65534);
    }

    private static void toggle() {
        PairedChannels x = new PairedChannels();
        checks.due("toggle(0)", x.toggle(0), 1);
        checks.due("toggle(7)", x.toggle(7), 1);
        checks.due("open places", Given.openMask(x), 129);
        checks.due("toggle(0) again", x.toggle(0), 0);
        checks.due("open places", Given.openMask(x), 128);
        for (int place : new int[] {-1, 8, 16, 32, LEAST, MOST}) {
            checks.throwsOf(x, "toggle(" + place + ")", BOUNDS, () -> x.toggle(place));
        }
        x.begin(1);
        checks.due("toggle(1) of 2", x.toggle(1), 1);
        checks.throwsOf(x, "toggle(2) of 2", BOUNDS, () -> x.toggle(2));
        x.begin(4);
        checks.due("toggle(15) of 16", x.toggle(15), 1);
        checks.throwsOf(x, "toggle(16) of 16", BOUNDS, () -> x.toggle(16));
    }

    private static void set() {
        PairedChannels x = new PairedChannels();
        int[] first = {500, 1, 0, 10};
        int[] least = {1, 1, 0, 1};
        int[] most = {999, 4, 3, 99};
        for (int s = 0; s < 4; s++) {
            int setting = s;
            int below = least[s] - 1;
            int above = most[s] + 1;
            String call = "set(" + s + ", ";
            checks.due(call + "most)", x.set(s, most[s]), first[s]);
            checks.due(call + "least)", x.set(s, least[s]), most[s]);
            checks.due("setting(" + s + ")", x.setting(s), least[s]);
            checks.due(call + "the same)", x.set(s, least[s]), least[s]);
            checks.throwsOf(x, call + below + ")", ARGUMENT, () -> x.set(setting, below));
            checks.throwsOf(x, call + above + ")", ARGUMENT, () -> x.set(setting, above));
            checks.throwsOf(x, call + "MIN)", ARGUMENT, () -> x.set(setting, LEAST));
            checks.throwsOf(x, call + "MAX)", ARGUMENT, () -> x.set(setting, MOST));
        }
        for (int setting : new int[] {-1, 4, LEAST, MOST}) {
            checks.throwsOf(x, "set(" + setting + ", 1)", BOUNDS, () -> x.set(setting, 1));
            checks.throwsOf(x, "set(" + setting + ", MIN)", BOUNDS, () -> x.set(setting, LEAST));
        }
    }

    private static void send() {
        PairedChannels x = new PairedChannels();
        checks.due("send(0) without open places", x.send(0), 0);
        dueValues("send(0)", x, 10, 10, 10, 10, 10, 10, 10, 10);
        checks.throwsOf(x, "send(1) without open places", ARGUMENT, () -> x.send(1));
        x.open(4);
        checks.due("send(10)", x.send(10), 204);
        dueValues("send(10)", x, 10, 10, -10, -10, 10, 10, -10, -10);
        x.set(3, 99);
        x.receive(0, 0);
        checks.due("send(15), bits 3, 5, 6, 7", x.send(15), 150);
        checks.throwsOf(x, "send(16)", ARGUMENT, () -> x.send(16));
        for (int body : new int[] {-1, LEAST, MOST, 1 << 30, 1 << 16}) {
            checks.throwsOf(x, "send(" + body + ")", ARGUMENT, () -> x.send(body));
        }
        x.set(2, 2);
        x.open(5);
        // 7 has the sum 6, its check number is 2: the bits 3, 4, 5 and 7
        checks.due("send(7) with two check bits", x.send(7), x.code(8 + 16 + 32 + 128));
        checks.due("what is read then", x.read(0), 23);
        checks.throwsOf(x, "send(8) with two check bits", ARGUMENT, () -> x.send(8));
        x.open(2);
        checks.due("send(0) without a body", x.send(0), 0);
        checks.throwsOf(x, "send(1) without a body", ARGUMENT, () -> x.send(1));
        x.begin(4);
        x.set(2, 0);
        x.open(16);
        checks.due("send(65535)", x.send(65535), 32768);
        checks.due("the value of the place 15", x.place(15, 3), 1);
        checks.due("the value of the place 14", x.place(14, 3), 199);
        checks.throwsOf(x, "send(65536)", ARGUMENT, () -> x.send(65536));
    }

    private static void receive() {
        PairedChannels x = new PairedChannels();
        int[][] rows = {{0, 0, 0}, {0, 5, 1}, {5, 99, 0}, {99, -99, 1}, {-99, -1, 0}, {-1, 0, 1},
            {0, -3, 1}, {-3, 4, 1}, {4, 0, 1},
            {0, 1, 1}, {1, 1, 0}, {1, 0, 1}, {0, 0, 0}};
        for (int[] row : rows) {
            String call = "receive(3, " + row[1] + ") behind " + row[0];
            checks.due(call, x.receive(3, row[1]), row[2]);
            dueValues(call, x, 0, 0, 0, row[1], 0, 0, 0, 0);
        }
        x.receive(7, -20);
        dueValues("receive(7, -20)", x, 0, 0, 0, 0, 0, 0, 0, -20);
        for (int value : new int[] {-100, 100, LEAST, MOST}) {
            checks.throwsOf(x, "receive(0, " + value + ")", ARGUMENT, () -> x.receive(0, value));
        }
        for (int place : new int[] {-1, 8, LEAST, MOST}) {
            checks.throwsOf(x, "receive(" + place + ", 1)", BOUNDS, () -> x.receive(place, 1));
            checks.throwsOf(x, "receive(" + place + ", 100)", BOUNDS, () -> x.receive(place, 100));
        }
    }

    private static void flip() {
        PairedChannels x = new PairedChannels();
        x.receive(2, -45);
        x.receive(3, 6);
        checks.due("flip(2)", x.flip(2), 45);
        dueValues("flip(2)", x, 0, 0, 45, 6, 0, 0, 0, 0);
        checks.due("flip(2) again", x.flip(2), 45);
        dueValues("flip(2) again", x, 0, 0, -45, 6, 0, 0, 0, 0);
        checks.due("flip(0) of 0", x.flip(0), 0);
        dueValues("flip(0)", x, 0, 0, -45, 6, 0, 0, 0, 0);
        for (int place : new int[] {-1, 8, LEAST, MOST}) {
            checks.throwsOf(x, "flip(" + place + ")", BOUNDS, () -> x.flip(place));
        }
    }

    private static void roll() {
        PairedChannels x = new PairedChannels();
        Given.write(x, "1,2,3,3,-5,6,7,8");
        x.receiveAll();
        x.toggle(0);
        checks.due("roll(0)", x.roll(0), 0);
        dueValues("roll(0)", x, 1, 2, 3, 3, -5, 6, 7, 8);
        checks.due("roll(1)", x.roll(1), 7);
        dueValues("roll(1)", x, 8, 1, 2, 3, 3, -5, 6, 7);
        checks.due("roll(3)", x.roll(3), 8);
        dueValues("roll(3)", x, -5, 6, 7, 8, 1, 2, 3, 3);
        checks.due("roll(7)", x.roll(7), 7);
        dueValues("roll(7)", x, 6, 7, 8, 1, 2, 3, 3, -5);
        checks.due("open places stay", Given.openMask(x), 1);
        for (int by : new int[] {-1, 8, 15, 16, LEAST, MOST}) {
            checks.throwsOf(x, "roll(" + by + ")", ARGUMENT, () -> x.roll(by));
        }
        x.begin(4);
        x.receive(15, 9);
        checks.due("roll(15) of 16", x.roll(15), 2);
        checks.due("the value of the place 14", x.place(14, 3), 109);
        checks.due("the value of the place 15", x.place(15, 3), 100);
        checks.throwsOf(x, "roll(16) of 16", ARGUMENT, () -> x.roll(16));
        x.begin(1);
        x.receive(0, 9);
        checks.due("roll(1) of 2", x.roll(1), 2);
        dueValues("roll(1) of 2", x, 0, 9);
        checks.throwsOf(x, "roll(2) of 2", ARGUMENT, () -> x.roll(2));
    }

    private static void append() {
        PairedChannels x = new PairedChannels();
        for (int code : new int[] {32, 127, 0, -1, 65536 + 48, LEAST, MOST}) {
            checks.throwsOf(x, "append(" + code + ")", ARGUMENT, () -> x.append(code));
        }
        checks.due("append(33)", x.append(33), 1);
        checks.due("append(126)", x.append(126), 2);
        for (int length = 3; length <= 60; length++) {
            checks.due("append(48)", x.append(48), length);
        }
        checks.throwsOf(x, "append(48) to 60", STATE, () -> x.append(48));
        checks.throwsOf(x, "append(127) to 60", ARGUMENT, () -> x.append(127));
        checks.due("saved states behind append", x.count(8), 0);
        checks.due("clearBuffer()", x.clearBuffer(), 60);
        checks.due("append(49) then", x.append(49), 1);
    }

    private static void clearBuffer() {
        PairedChannels x = Given.withBuffer("12,x");
        x.receive(0, 5);
        checks.due("clearBuffer()", x.clearBuffer(), 4);
        checks.due("clearBuffer() again", x.clearBuffer(), 0);
        checks.due("saved states behind clearBuffer", x.count(8), 1);
        dueValues("clearBuffer", x, 5, 0, 0, 0, 0, 0, 0, 0);
        x.undo();
        checks.due("the buffer behind undo", x.clearBuffer(), 0);
        Given.write(x, "7");
        checks.due("values of a text behind clearBuffer", x.receiveAll(), 1);
        dueValues("a text behind clearBuffer", x, 7, 0, 0, 0, 0, 0, 0, 0);
    }

    private static void firstError() {
        String[] right = {"", "-", "0", "-0", "9", "10", "99", "-99", "1,", "1,-", "0,0", "-0,-0,",
            "12,-3,0,45", Given.repeated("0,", 15), Given.repeated("0,", 15) + "0",
            Given.repeated("-99,", 15),
            Given.repeated("0,", 15) + "-", Given.repeated("0,", 15) + "-10"};
        for (String text : right) {
            PairedChannels x = Given.withBuffer(text);
            checks.due("firstError of " + text, x.firstError(), text.length());
        }
        String[] wrong = {",", "x", "--", "-,", "00", "01", "-00", "-05", "100", "-100", "1-", "0-",
            "10-", "1,,", "1,-,", "1,--", "1,00", "1,100", "1+", "1.", "+", "1;", "1/", "1:", "/",
            ":", "1a", "-x", "0x", "00", "09", "0,01", "1,2,x", "12,-34,567", "-1-", "A", "1A",
            Given.repeated("0,", 15) + "0,", Given.repeated("1,", 15) + "12,",
            Given.repeated("0,", 16)};
        for (String text : wrong) {
            PairedChannels x = Given.withBuffer(text);
            checks.due("firstError of " + text, x.firstError(), text.length() - 1);
            x.clearBuffer();
            Given.write(x, text.length() < 58 ? text + "1," : text);
            checks.due("firstError of " + text + "1,", x.firstError(), text.length() - 1);
        }
        for (int code = 33; code <= 126; code++) {
            boolean begins = code == '-' || code >= '0' && code <= '9';
            boolean follows = code == ',' || code >= '0' && code <= '9';
            checks.due("firstError of " + (char) code,
                    Given.withBuffer("" + (char) code).firstError(), begins ? 1 : 0);
            checks.due("firstError of 7" + (char) code,
                    Given.withBuffer("7" + (char) code).firstError(), follows ? 2 : 1);
        }
        PairedChannels x = new PairedChannels();
        x.begin(1);
        Given.write(x, "1,2,3");
        checks.due("firstError of more values than places", x.firstError(), 5);
        checks.due("the buffer stays behind firstError", x.clearBuffer(), 5);
    }

    private static void receiveAll() {
        PairedChannels x = Given.withBuffer("1,-2,0,-0,99,-99,10,8");
        x.open(3);
        checks.due("receiveAll of 8", x.receiveAll(), 8);
        dueValues("receiveAll", x, 1, -2, 0, 0, 99, -99, 10, 8);
        checks.due("open places stay", Given.openMask(x), 224);
        checks.due("the buffer behind receiveAll", x.clearBuffer(), 0);
        checks.due("saved states", x.count(8), 2);
        Given.write(x, "-5");
        checks.due("receiveAll of 1", x.receiveAll(), 1);
        dueValues("receiveAll of 1", x, -5, 0, 0, 0, 0, 0, 0, 0);
        String[] wrong = {"", "-", "1,", "1,-", ",", "1,2,x", "01", "100", "-00", "1,,2",
            Given.repeated("0,", 15), Given.repeated("0,", 16) + "0", "1,2,3,4,5,6,7,8,9,",
            "1,2,3,4,5,6,7,8,9,-", "1,2,3,4,5,6,7,8,9,00"};
        for (String text : wrong) {
            PairedChannels y = Given.withBuffer(text);
            checks.throwsOf(y, "receiveAll of " + text, ARGUMENT, y::receiveAll);
            checks.due("the buffer stays", y.clearBuffer(), text.length());
        }
        PairedChannels nine = Given.withBuffer("1,2,3,4,5,6,7,8,9");
        checks.throwsOf(nine, "receiveAll of 9 for 8", STATE, nine::receiveAll);
        nine.begin(4);
        checks.due("receiveAll of 9 for 16", nine.receiveAll(), 9);
        dueValues("receiveAll of 9", nine, 1, 2, 3, 4, 5, 6, 7, 8, 9, 0, 0, 0, 0, 0, 0, 0);
        Given.write(nine, Given.repeated("-1,", 15) + "-42");
        checks.due("receiveAll of 16", nine.receiveAll(), 16);
        checks.due("the last value", nine.place(15, 3), 58);
        nine.begin(1);
        Given.write(nine, "4,5,6");
        checks.throwsOf(nine, "receiveAll of 3 for 2", STATE, nine::receiveAll);
        nine.undo();
        checks.due("receiveAll of 3 for 16", nine.receiveAll(), 3);
    }

    private static void undo() {
        PairedChannels x = new PairedChannels();
        x.begin(2);
        x.open(2);
        x.set(0, 77);
        x.receive(1, 31);
        checks.due("undo of receive", x.undo(), 3);
        dueValues("undo of receive", x, 0, 0, 0, 0);
        checks.due("setting 0", x.setting(0), 77);
        checks.due("undo of set", x.undo(), 2);
        checks.due("setting 0", x.setting(0), 500);
        checks.due("open places", Given.openMask(x), 12);
        checks.due("undo of open", x.undo(), 1);
        checks.due("open places", Given.openMask(x), 0);
        checks.due("places", x.count(0), 4);
        checks.due("undo of begin", x.undo(), 0);
        checks.due("places", x.count(0), 8);
        checks.throwsOf(x, "undo", STATE, x::undo);
        for (int value = 1; value <= 20; value++) {
            x.receive(0, value);
            checks.due("saved states", x.count(8), value < 6 ? value : 6);
        }
        for (int left = 5; left >= 0; left--) {
            checks.due("undo of 6", x.undo(), left);
            checks.due("the value then", x.place(0, 3), 114 + left);
        }
        checks.throwsOf(x, "undo behind 6", STATE, x::undo);
        x.receive(0, 50);
        x.undo();
        x.receive(0, 60);
        checks.due("undo behind an undo and a change", x.undo(), 0);
        checks.due("the value then", x.place(0, 3), 114);
        Given.write(x, "3,4");
        x.receiveAll();
        Given.write(x, "5");
        checks.due("undo of receiveAll", x.undo(), 0);
        checks.due("the value then", x.place(0, 3), 114);
        checks.due("undo leaves the buffer", x.clearBuffer(), 1);
        PairedChannels y = twoPlaces(3, 5);
        y.receive(1, -5);
        checks.due("read(0) of 3 and -5", y.read(0), 1);
        y.undo();
        checks.due("read(0) behind undo", y.read(0), 0);
        checks.due("heard(1) behind undo", y.heard(1), 10008);
    }

    private static void place() {
        PairedChannels x = new PairedChannels();
        x.open(4);
        x.set(2, 1);
        x.receive(5, -99);
        x.receive(6, 99);
        int[] open = {0, 0, 0, 1, 0, 1, 1, 1};
        int[] ranks = {7, 6, 5, 3, 4, 2, 1, 0};
        int[] values = {100, 100, 100, 100, 100, 1, 199, 100};
        int[] which = {NONE, NONE, NONE, 0, NONE, 1, 2, 3};
        int[] checkPlaces = {0, 0, 0, 0, 0, 0, 0, 1};
        int[][] due = {open, UNSURE_8, ranks, values, which, checkPlaces};
        for (int p = 0; p < 8; p++) {
            for (int what = 0; what <= 5; what++) {
                checks.due("place(" + p + ", " + what + ")", x.place(p, what), due[what][p]);
            }
        }
        x.set(2, 3);
        checks.due("place(3, 5) with 3 check bits", x.place(3, 5), 0);
        checks.due("place(4, 5), closed, with 3 check bits", x.place(4, 5), 0);
        checks.due("place(5, 5) with 3 check bits", x.place(5, 5), 1);
        x.open(2);
        checks.due("place(6, 5) of 2 open ones", x.place(6, 5), 1);
        checks.due("place(7, 5) of 2 open ones", x.place(7, 5), 1);
        for (int place : new int[] {-1, 8, LEAST, MOST}) {
            checks.throwsOf(x, "place(" + place + ", 0)", BOUNDS, () -> x.place(place, 0));
            checks.throwsOf(x, "place(" + place + ", 6)", BOUNDS, () -> x.place(place, 6));
        }
        for (int what : new int[] {-1, 6, LEAST, MOST}) {
            checks.throwsOf(x, "place(0, " + what + ")", ARGUMENT, () -> x.place(0, what));
        }
        placeAsUnsure();
    }

    private static void placeAsUnsure() {
        PairedChannels x = new PairedChannels();
        x.set(0, 1);
        int[] unsure = {7975, 15, 6, 0, 4, 0, 0, 0};
        int[] ranks = {7, 6, 5, 3, 4, 2, 1, 0};
        for (int p = 0; p < 8; p++) {
            checks.due("place(" + p + ", 1) at 1", x.place(p, 1), unsure[p]);
            checks.due("place(" + p + ", 2) at 1", x.place(p, 2), ranks[p]);
        }
        x.begin(1);
        checks.due("place(0, 1) of 2 at 1", x.place(0, 1), 1999);
        checks.due("place(1, 1) of 2 at 1", x.place(1, 1), 1);
        x.set(0, 999);
        checks.due("place(0, 1) of 2 at 999", x.place(0, 1), 999999);
        checks.due("place(1, 1) of 2 at 999", x.place(1, 1), 998001);
        x.begin(2);
        int[] four = {1000000, 999998, 999997, 996005};
        for (int p = 0; p < 4; p++) {
            checks.due("place(" + p + ", 1) of 4 at 999", x.place(p, 1), four[p]);
        }
        x.begin(4);
        for (int p = 0; p <= 6; p++) {
            checks.due("place(" + p + ", 1) of 16 at 999", x.place(p, 1), 1000000);
            checks.due("place(" + p + ", 2) of 16 at 999", x.place(p, 2), 15 - p);
        }
    }

    private static void code() {
        PairedChannels x = new PairedChannels();
        int[][] rows = {{0, 0}, {1, 1}, {2, 3}, {4, 5}, {8, 15}, {16, 17}, {128, 255}, {52, 39},
            {43690, 192}, {160, 204}, {255, 128}, {256, 0}, {65535, 128}, {65280, 0}};
        for (int[] row : rows) {
            checks.due("code(" + row[0] + ")", x.code(row[0]), row[1]);
        }
        for (int bits : new int[] {-1, 65536, LEAST, MOST}) {
            checks.throwsOf(x, "code(" + bits + ")", ARGUMENT, () -> x.code(bits));
        }
        x.begin(1);
        checks.due("code(2) of 2", x.code(2), 3);
        checks.due("code(3) of 2", x.code(3), 2);
        checks.due("code(4) of 2", x.code(4), 0);
        x.begin(2);
        checks.due("code(8) of 4", x.code(8), 15);
        checks.due("code(12) of 4", x.code(12), 10);
        checks.due("code(240) of 4", x.code(240), 0);
        x.begin(4);
        checks.due("code(32768) of 16", x.code(32768), 65535);
        checks.due("code(65535) of 16", x.code(65535), 32768);
        checks.due("code(256) of 16", x.code(256), 257);
        for (int bits = 0; bits < 65536; bits += 771) {
            checks.due("code twice of " + bits, x.code(x.code(bits)), bits);
        }
    }

    private static void word() {
        PairedChannels x = new PairedChannels();
        checks.due("word(0)", x.word(0), 0);
        checks.throwsOf(x, "word(1) without open places", ARGUMENT, () -> x.word(1));
        x.open(4);
        checks.due("word(10)", x.word(10), 204);
        checks.throwsOf(x, "word(16)", ARGUMENT, () -> x.word(16));
        dueValues("word", x, 0, 0, 0, 0, 0, 0, 0, 0);
        x.set(2, 1);
        // the bits 3, 5, 6 for the body, 7 for the check bit
        int[] checkBit = {0, 1, 0, 1, 1, 0, 1, 0};
        for (int body = 0; body < 8; body++) {
            int bits = (body & 1) << 3 | (body & 6) << 4 | checkBit[body] << 7;
            checks.due("word(" + body + ")", x.word(body), x.code(bits));
        }
        checks.throwsOf(x, "word(8)", ARGUMENT, () -> x.word(8));
        x.open(8);
        x.set(2, 3);
        // five body bits: 1 + 2 + 3 + 4 + 5 = 15, which is 7 in three digits; 2 + 5 is 7 too
        checks.due("word(31)", x.word(31), x.code(31 + 7 * 32));
        checks.due("word(18)", x.word(18), x.code(18 + 7 * 32));
        checks.due("word(17)", x.word(17), x.code(17 + 6 * 32));
        checks.due("word(28)", x.word(28), x.code(28 + 4 * 32));
        x.set(2, 2);
        checks.due("word(63), the sum 21", x.word(63), x.code(63 + 64));
        for (int body : new int[] {-1, 64, LEAST, MOST}) {
            checks.throwsOf(x, "word(" + body + ")", ARGUMENT, () -> x.word(body));
        }
        x.open(2);
        checks.due("word(0) without a body", x.word(0), 0);
        checks.throwsOf(x, "word(1) without a body", ARGUMENT, () -> x.word(1));
        x.begin(4);
        x.open(16);
        x.set(2, 0);
        checks.due("word(65535)", x.word(65535), 32768);
        checks.throwsOf(x, "word(65536)", ARGUMENT, () -> x.word(65536));
        x.set(2, 3);
        // thirteen body bits: the sum 91 is 3 in three digits
        checks.due("word(8191)", x.word(8191), x.code(8191 + 3 * 8192));
        checks.throwsOf(x, "word(8192)", ARGUMENT, () -> x.word(8192));
    }

    private static void dueRead(String of, PairedChannels x, int... due) {
        for (int what = 0; what <= 4; what++) {
            checks.due("read(" + what + ") of " + of, x.read(what), due[what]);
        }
    }

    private static void read() {
        PairedChannels x = new PairedChannels();
        dueRead("a new object", x, 0, 0, 0, 0, 0);
        PairedChannels y = fourPlaces();
        // the paths: 3 with 2, 0 with 5, 2 with 12, 1 with 15
        dueRead("four places", y, 3, 3, 0, 2, 1);
        y.set(2, 1);
        dueRead("four places, one check bit", y, 3, 1, 0, 2, 1);
        y.set(2, 2);
        dueRead("four places, only check bits", y, NONE, NONE, NONE, NONE, NONE);
        y.set(1, 2);
        dueRead("four places, only check bits, two paths", y, 0, 0, 1, 5, 1);
        y.set(2, 3);
        dueRead("four places, more check bits than places", y, 0, 0, 1, 5, 1);
        y.set(2, 0);
        y.open(0);
        dueRead("four closed places", y, 0, 0, 0, 5, 1);
        for (int what : new int[] {-1, 5, LEAST, MOST}) {
            checks.throwsOf(y, "read(" + what + ")", ARGUMENT, () -> y.read(what));
        }
        PairedChannels z = new PairedChannels();
        z.open(4);
        z.send(10);
        z.receive(0, 0);
        z.receive(1, -1);
        dueRead("what is sent, with noise", z, 10, 10, 0, 1, 1);
        readThrows();
    }

    private static void readThrows() {
        PairedChannels none = fourPlaces();
        none.set(2, 2);
        checks.throwsOf(none, "read(5) of nothing", ARGUMENT, () -> none.read(5));
        checks.throwsOf(none, "read(-1) of nothing", ARGUMENT, () -> none.read(-1));
    }

    private static void duePath(PairedChannels x, int rank, int... due) {
        for (int what = 0; what <= 2; what++) {
            String call = "path(" + rank + ", " + what + ") of " + x.setting(1);
            checks.due(call, x.path(rank, what), due[what]);
        }
    }

    private static void path() {
        PairedChannels x = fourPlaces();
        int[][] due = {{3, 2, 1}, {0, 5, 1}, {2, 12, 0}, {1, 15, 0}};
        x.set(2, 1);
        for (int paths = 1; paths <= 4; paths++) {
            x.set(1, paths);
            for (int rank = 0; rank < 6; rank++) {
                duePath(x, rank, rank < paths ? due[rank] : new int[] {NONE, NONE, NONE});
            }
        }
        duePath(x, MOST, NONE, NONE, NONE);
        for (int rank : new int[] {-1, LEAST}) {
            checks.throwsOf(x, "path(" + rank + ", 0)", ARGUMENT, () -> x.path(rank, 0));
        }
        for (int what : new int[] {-1, 3, LEAST, MOST}) {
            checks.throwsOf(x, "path(0, " + what + ")", ARGUMENT, () -> x.path(0, what));
            checks.throwsOf(x, "path(9, " + what + ")", ARGUMENT, () -> x.path(9, what));
        }
        // without penalties those that are earlier in the list stay, as they are
        PairedChannels y = new PairedChannels();
        y.begin(2);
        y.toggle(2);
        y.toggle(3);
        int[] messages = {0, 2, 1, 3};
        for (int paths = 1; paths <= 4; paths++) {
            y.set(1, paths);
            for (int rank = 0; rank < 4; rank++) {
                int message = rank < paths ? messages[rank] : NONE;
                checks.due("path(" + rank + ", 0) of zeros", y.path(rank, 0), message);
            }
        }
        y.toggle(1);
        y.set(1, 3);
        checks.due("path(0, 0) of three open ones", y.path(0, 0), 0);
        checks.due("path(1, 0) of three open ones", y.path(1, 0), 4);
        checks.due("path(2, 0) of three open ones", y.path(2, 0), 2);
        PairedChannels closed = new PairedChannels();
        closed.set(1, 4);
        duePath(closed, 0, 0, 0, 1);
        duePath(closed, 1, NONE, NONE, NONE);
    }

    private static void heard() {
        PairedChannels x = fourPlaces();
        int[] open = {9998, 10001, 9997, 9987};
        int[] closed = {9998, 10001, 9997, 10007};
        for (int p = 0; p < 4; p++) {
            checks.due("heard(" + p + ")", x.heard(p), open[p]);
        }
        x.set(1, 4);
        x.set(2, 2);
        for (int p = 0; p < 4; p++) {
            checks.due("heard(" + p + ") by the first path, which is not right", x.heard(p), open[p]);
        }
        x.open(0);
        for (int p = 0; p < 4; p++) {
            checks.due("heard(" + p + ") of closed places", x.heard(p), closed[p]);
        }
        checks.throwsOf(x, "heard(4)", BOUNDS, () -> x.heard(4));
        checks.throwsOf(x, "heard(-1)", BOUNDS, () -> x.heard(-1));
        checks.throwsOf(x, "heard(MIN)", BOUNDS, () -> x.heard(LEAST));
        checks.throwsOf(x, "heard(MAX)", BOUNDS, () -> x.heard(MOST));
        PairedChannels y = new PairedChannels();
        y.begin(4);
        Given.write(y, Given.repeated("99,", 15) + "99");
        y.receiveAll();
        checks.due("heard(15) of all 99", y.heard(15), 11584);
        checks.due("heard(0) of all 99", y.heard(0), 10099);
        checks.due("heard(7) of all 99", y.heard(7), 10792);
        y.set(3, 99);
        y.open(16);
        y.send(32768);
        checks.due("heard(15) of a one", y.heard(15), 8416);
        PairedChannels zero = twoPlaces(0, -4);
        checks.due("heard(0) of 0 and -4", zero.heard(0), 10000);
        checks.due("heard(1) of 0 and -4", zero.heard(1), 9996);
        PairedChannels both = twoPlaces(-3, -4);
        checks.due("heard(0) of -3 and -4", both.heard(0), 10003);
    }

    private static void count() {
        PairedChannels x = fourPlaces();
        x.set(1, 3);
        x.set(2, 1);
        x.receive(2, 0);
        x.receive(2, 7);
        int[] due = {4, 2, 1, 1, 0, 17, 3, 2, 6};
        for (int what = 0; what <= 8; what++) {
            checks.due("count(" + what + ")", x.count(what), due[what]);
        }
        x.set(2, 2);
        checks.due("count(2) with two check bits of 2", x.count(2), 0);
        checks.due("count(3) with two check bits of 2", x.count(3), 2);
        checks.due("count(7) with two check bits of 2", x.count(7), 1);
        x.set(2, 3);
        checks.due("count(2) with three check bits of 2", x.count(2), 0);
        checks.due("count(3) with three check bits of 2", x.count(3), 2);
        x.set(1, 1);
        checks.due("count(6) with one path", x.count(6), 1);
        checks.due("count(7) with one path", x.count(7), 0);
        x.receive(0, 0);
        checks.due("count(4) with a 0", x.count(4), 1);
        checks.due("count(5) with a 0", x.count(5), 14);
        x.begin(4);
        checks.due("count(4) of 16", x.count(4), 16);
        checks.due("count(3) of closed places", x.count(3), 0);
        x.open(16);
        checks.due("count(2) of 16", x.count(2), 13);
        for (int what : new int[] {-1, 9, LEAST, MOST}) {
            checks.throwsOf(x, "count(" + what + ")", ARGUMENT, () -> x.count(what));
        }
    }

    private static void setting() {
        PairedChannels x = new PairedChannels();
        x.set(0, 2);
        x.set(1, 3);
        x.set(2, 1);
        x.set(3, 4);
        int[] due = {2, 3, 1, 4};
        for (int s = 0; s < 4; s++) {
            checks.due("setting(" + s + ")", x.setting(s), due[s]);
        }
        for (int setting : new int[] {-1, 4, LEAST, MOST}) {
            checks.throwsOf(x, "setting(" + setting + ")", BOUNDS, () -> x.setting(setting));
        }
    }

    private static void ifFlipped() {
        PairedChannels x = twoPlaces(5, 3);
        checks.due("ifFlipped(0) of 5 and 3", x.ifFlipped(0), 1);
        checks.due("ifFlipped(1) of 5 and 3", x.ifFlipped(1), 0);
        dueValues("ifFlipped", x, 5, 3);
        x.set(2, 1);
        checks.due("ifFlipped(0), not right", x.ifFlipped(0), NONE);
        x.set(1, 2);
        checks.due("ifFlipped(0), the second path", x.ifFlipped(0), 0);
        for (int place : new int[] {-1, 2, LEAST, MOST}) {
            checks.throwsOf(x, "ifFlipped(" + place + ")", BOUNDS, () -> x.ifFlipped(place));
        }
        PairedChannels y = fourPlaces();
        for (int p = 0; p < 4; p++) {
            int would = y.ifFlipped(p);
            y.flip(p);
            checks.due("read(0) behind flip(" + p + ")", y.read(0), would);
            y.undo();
        }
    }

    private static void ifPaths() {
        PairedChannels x = fourPlaces();
        x.set(2, 2);
        checks.due("ifPaths(1)", x.ifPaths(1), NONE);
        checks.due("ifPaths(2)", x.ifPaths(2), 0);
        checks.due("ifPaths(4)", x.ifPaths(4), 0);
        checks.due("setting 1 stays", x.setting(1), 1);
        checks.due("read(0) stays", x.read(0), NONE);
        x.set(1, 4);
        checks.due("ifPaths(1) of 4", x.ifPaths(1), NONE);
        checks.due("ifPaths(3) of 4", x.ifPaths(3), 0);
        for (int paths : new int[] {0, 5, -1, LEAST, MOST}) {
            checks.throwsOf(x, "ifPaths(" + paths + ")", ARGUMENT, () -> x.ifPaths(paths));
        }
    }

    private static void weakest() {
        checks.due("weakest() of a new object", new PairedChannels().weakest(), NONE);
        checks.due("weakest() of 5 and 3", twoPlaces(5, 3).weakest(), 0);
        checks.due("weakest() of 3 and 5", twoPlaces(3, 5).weakest(), 1);
        checks.due("weakest() of 0 and 0", twoPlaces(0, 0).weakest(), NONE);
        PairedChannels toNothing = twoPlaces(3, 5);
        toNothing.set(2, 1);
        checks.due("weakest() to nothing", toNothing.weakest(), 1);
        PairedChannels fromNothing = twoPlaces(-3, -5);
        fromNothing.set(2, 1);
        checks.due("read(0) of -3 and -5", fromNothing.read(0), NONE);
        checks.due("weakest() from nothing", fromNothing.weakest(), 1);
        fromNothing.toggle(1);
        checks.due("weakest() of closed places", fromNothing.weakest(), NONE);
        PairedChannels sixteen = new PairedChannels();
        sixteen.begin(4);
        sixteen.open(1);
        sixteen.receive(15, 5);
        checks.due("weakest() of the last place", sixteen.weakest(), 15);
    }

    private static void borne() {
        checks.due("borne() of a new object", new PairedChannels().borne(), 8);
        checks.due("borne() of 5 and 3", twoPlaces(5, 3).borne(), 0);
        checks.due("borne() of 3 and 5", twoPlaces(3, 5).borne(), 1);
        checks.due("borne() of 0 and 0", twoPlaces(0, 0).borne(), 2);
        PairedChannels nothing = twoPlaces(-3, -5);
        nothing.set(2, 1);
        checks.due("borne() of nothing", nothing.borne(), 1);
        PairedChannels x = new PairedChannels();
        x.open(1);
        x.send(0);
        // the place 7 hears the sum of all values: it is below 0 with five of them flipped,
        // and with four it is 0, where the 0 stays
        checks.due("borne() of 8", x.borne(), 4);
        x.begin(4);
        checks.due("borne() of 16 closed places", x.borne(), 16);
        // the place 3 hears 3; with the place 0 flipped -5, with 0 and 1 flipped 1 again
        PairedChannels back = new PairedChannels();
        back.begin(2);
        Given.write(back, "4,-3,1,1");
        back.receiveAll();
        back.open(1);
        checks.due("borne() up to the first time", back.borne(), 0);
        // it hears 21, 3, -5, -13, -21
        Given.write(back, "9,4,4,4");
        back.receiveAll();
        checks.due("borne() of 9, 4, 4, 4", back.borne(), 1);
    }

    private static void unsureShare() {
        PairedChannels x = new PairedChannels();
        checks.dueShare("unsureShare() of none", x.unsureShare(), 0.0);
        x.open(3);
        checks.dueShare("unsureShare() of 3", x.unsureShare(), 316406.0 / 3000000.0);
        x.open(8);
        checks.dueShare("unsureShare() of 8", x.unsureShare(), 4000000.0 / 8000000.0);
        x.open(1);
        checks.dueShare("unsureShare() of 1", x.unsureShare(), 3906.0 / 1000000.0);
        x.set(0, 1);
        checks.dueShare("unsureShare() of a sure place", x.unsureShare(), 0.0);
        x.begin(4);
        x.set(0, 999);
        x.toggle(0);
        checks.dueShare("unsureShare() of the most unsure place", x.unsureShare(), 1.0);
    }

    /** Each digest is asked of an object of its own, as asking for its parts takes many calls. */
    private static void digest() {
        dueDigest("a new object", x -> { }, "");
        dueDigest("a buffer", x -> { }, "1,~");
        dueDigest("a full buffer", x -> { }, Given.repeated("-99,", 15));
        dueDigest("open(3)", x -> x.open(3), "");
        dueDigest("a word of 16 places that is sent", x -> {
            x.begin(4);
            x.open(9);
            x.set(1, 4);
            x.set(2, 3);
            x.send(33);
            x.receive(15, 3);
        }, "-");
        dueDigest("a share of 0.0", x -> {
            x.set(0, 1);
            x.toggle(7);
        }, "");
        dueDigest("a share of 1.0", x -> {
            x.begin(4);
            x.set(0, 999);
            x.toggle(0);
        }, "");
        dueDigest("a share of 0.000001", x -> {
            x.begin(1);
            x.set(0, 1);
            x.toggle(1);
        }, "");
        dueDigest("nothing that is read", x -> {
            x.begin(1);
            x.receive(1, -5);
            x.toggle(1);
            x.set(2, 1);
        }, "");
        for (int noise = 1; noise <= 999; noise += 7) {
            int chosen = noise;
            dueDigest("open(1) at " + noise, x -> {
                x.begin(1);
                x.set(0, chosen);
                x.open(1 + chosen % 2);
            }, "");
        }
    }

    private static void dueDigest(String of, Change change, String buffer) {
        PairedChannels x = Given.withBuffer(buffer);
        change.on(x);
        long hash = 2797;
        for (int what = 0; what <= 8; what++) {
            hash = 31 * hash + x.count(what);
        }
        for (int s = 0; s <= 3; s++) {
            hash = 31 * hash + x.setting(s);
        }
        for (int p = 0; p < x.count(0); p++) {
            for (int what = 0; what <= 5; what++) {
                hash = 31 * hash + x.place(p, what);
            }
            hash = 31 * hash + x.heard(p);
            hash = 31 * hash + x.ifFlipped(p);
        }
        for (int what = 0; what <= 4; what++) {
            hash = 31 * hash + x.read(what);
        }
        for (int i = 0; i < 12; i++) {
            hash = 31 * hash + x.path(i / 3, i % 3);
        }
        for (int bits : new int[] {1, 52, 43690}) {
            hash = 31 * hash + x.code(bits);
        }
        hash = 31 * hash + x.word(0);
        for (int paths = 1; paths <= 4; paths++) {
            hash = 31 * hash + x.ifPaths(paths);
        }
        hash = 31 * hash + x.weakest();
        hash = 31 * hash + x.borne();
        hash = 31 * hash + Double.doubleToLongBits(x.unsureShare());
        hash = 31 * hash + buffer.length();
        for (char sign : buffer.toCharArray()) {
            hash = 31 * hash + sign;
        }
        checks.due("digest() of " + of, x.digest(), hash);
    }

    private interface Change {
        void on(PairedChannels x);
    }

    private static PairedChannels someObject() {
        PairedChannels x = new PairedChannels();
        x.set(0, 321);
        x.set(1, 2);
        x.open(5);
        x.send(22);
        x.flip(4);
        Given.write(x, "9,-8,7");
        return x;
    }

    private static void savesBeforeEachUndoable() {
        Change[] changes = {x -> x.begin(1), x -> x.begin(3), x -> x.open(2), x -> x.open(5),
            x -> x.toggle(4), x -> x.set(0, 321), x -> x.set(1, 4), x -> x.set(2, 2),
            x -> x.set(3, 7), x -> x.send(3), x -> x.send(22), x -> x.receive(2, -9),
            x -> x.receive(0, x.place(0, 3) - 100), x -> x.flip(1), x -> x.roll(3), x -> x.roll(0),
            x -> x.receiveAll()};
        for (int i = 0; i < changes.length; i++) {
            PairedChannels x = someObject();
            int states = x.count(8);
            changes[i].on(x);
            checks.due("saved states behind the change " + i, x.count(8), states + 1);
            x.clearBuffer();
            PairedChannels y = someObject();
            y.clearBuffer();
            checks.due("undo of the change " + i, x.undo(), states);
            checks.due("digest behind undo of the change " + i, x.digest(), y.digest());
        }
    }

    /** With six saved states a state that is saved wrongly shows only when all are restored. */
    private static void savesNothingWhenThrowing() {
        Change[] wrong = {x -> x.begin(0), x -> x.open(17), x -> x.open(9), x -> x.toggle(8),
            x -> x.set(4, 1), x -> x.set(0, 0), x -> x.send(1), x -> x.receive(8, 1),
            x -> x.receive(1, 100), x -> x.flip(8), x -> x.roll(8), x -> x.append(32),
            x -> x.receiveAll(), x -> x.place(8, 0), x -> x.read(5)};
        for (int i = 0; i < wrong.length; i++) {
            PairedChannels x = new PairedChannels();
            for (int value = 1; value <= 9; value++) {
                x.receive(0, value);
            }
            Change change = wrong[i];
            String outcome = Checks.outcome(() -> {
                change.on(x);
                return 0;
            });
            checks.due("the call " + i + " throws", outcome.startsWith("throws") ? 1 : 0, 1);
            checks.due("saved states behind it", x.count(8), 6);
            checks.due("the value behind it", x.place(0, 3), 109);
            for (int left = 5; left >= 0; left--) {
                checks.due("undo behind the call " + i, x.undo(), left);
                checks.due("the value then", x.place(0, 3), 103 + left);
            }
        }
    }

    private static void looksChangeNothing() {
        PairedChannels x = someObject();
        long before = x.digest();
        PairedChannels y = someObject();
        checks.due("digest() of another object with the same calls", y.digest(), before);
        Checks.Call[] looks = {() -> x.place(3, 2), () -> x.code(77), () -> x.word(9),
            () -> x.read(0), () -> x.path(1, 0), () -> x.heard(6), () -> x.count(7),
            () -> x.setting(2), () -> x.ifFlipped(5), () -> x.ifPaths(4), x::weakest, x::borne,
            () -> (long) x.unsureShare(), x::firstError, x::digest};
        for (int i = 0; i < looks.length; i++) {
            Checks.outcome(looks[i]);
            checks.due("digest() behind the look " + i, x.digest(), before);
        }
        checks.due("the buffer behind looks", x.receiveAll(), 3);
    }
}
