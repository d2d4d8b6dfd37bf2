/** Many runs of calls, made by counting, on the program and on the model of the document. */
public final class ModelTests {
    private static final Checks CHECKS = new Checks("the same as the model");
    /** Behind 512 calls the document promises nothing. */
    private static final int MOST_CALLS = 512;
    private static long seed;
    private static int calls;

    private static int below(int bound) {
        seed = seed * 6364136223846793005L + 1442695040888963407L;
        return (int) ((seed >>> 33) % bound);
    }

    private static int between(int least, int most) {
        return least + below(most - least + 1);
    }

    public static void main(String[] args) {
        for (int run = 1; run <= 500; run++) {
            seed = run * 7919L;
            run(run);
        }
        CHECKS.end();
    }

    private static void run(int run) {
        PairedChannels x = new PairedChannels();
        Model m = new Model();
        StringBuilder told = new StringBuilder("run " + run + ":");
        calls = 0;
        // some runs get a setup with open places first, so that reading has something to do
        if (run % 4 != 0) {
            setUp(x, m, told);
        }
        // a step writes 71 signs at most, and some ten calls come with them
        while (calls + 90 < MOST_CALLS) {
            step(x, m, told);
            calls++;
            CHECKS.due(told + " digest", x.digest(), m.digest());
            for (int look = 0; look < 4; look++) {
                look(x, m, told.toString());
            }
        }
    }

    private static void both(StringBuilder told, String call, Checks.Call a, Checks.Call b) {
        told.append(' ').append(call);
        calls++;
        CHECKS.dueText(told.toString(), Checks.outcome(a), Checks.outcome(b));
    }

    private static void setUp(PairedChannels x, Model m, StringBuilder told) {
        int k = between(1, 4);
        int many = between(0, 1 << k);
        int noise = between(1, 999);
        int paths = between(1, 4);
        int checks = between(0, 3);
        both(told, "begin " + k, () -> x.begin(k), () -> m.begin(k));
        both(told, "set 0 " + noise, () -> x.set(0, noise), () -> m.set(0, noise));
        both(told, "set 1 " + paths, () -> x.set(1, paths), () -> m.set(1, paths));
        both(told, "set 2 " + checks, () -> x.set(2, checks), () -> m.set(2, checks));
        both(told, "open " + many, () -> x.open(many), () -> m.open(many));
        int body = body(m);
        both(told, "send " + body, () -> x.send(body), () -> m.send(body));
    }

    private static int body(Model m) {
        int bits = m.count(2);
        return below(8) == 0 ? between(-1, 1 << bits) : below(1 << bits);
    }

    private static int place(Model m) {
        int n = m.count(0);
        return below(10) == 0 ? between(-1, n) : below(n);
    }

    private static void step(PairedChannels x, Model m, StringBuilder told) {
        int place = place(m);
        int body = body(m);
        switch (below(24)) {
            case 0:
                int k = below(3) == 0 ? between(0, 5) : between(2, 4);
                both(told, "begin " + k, () -> x.begin(k), () -> m.begin(k));
                break;
            case 1:
            case 2:
                int many = below(10) == 0 ? between(-1, 17) : below(m.count(0) + 1);
                both(told, "open " + many, () -> x.open(many), () -> m.open(many));
                break;
            case 3:
            case 4:
            case 5:
                both(told, "toggle " + place, () -> x.toggle(place), () -> m.toggle(place));
                break;
            case 6:
            case 7:
            case 8:
                set(x, m, told);
                break;
            case 9:
            case 10:
            case 11:
                both(told, "send " + body, () -> x.send(body), () -> m.send(body));
                break;
            case 12:
            case 13:
                int value = below(6) == 0 ? between(-101, 101) : between(-12, 12);
                both(told, "receive " + place + " " + value,
                        () -> x.receive(place, value), () -> m.receive(place, value));
                break;
            case 14:
            case 15:
            case 16:
                both(told, "flip " + place, () -> x.flip(place), () -> m.flip(place));
                break;
            case 17:
                int by = between(-1, 16);
                both(told, "roll " + by, () -> x.roll(by), () -> m.roll(by));
                break;
            case 18:
                write(x, m, told, text(m));
                break;
            case 19:
                write(x, m, told, signs());
                break;
            case 20:
                both(told, "clearBuffer", x::clearBuffer, m::clearBuffer);
                break;
            case 21:
                both(told, "receiveAll", x::receiveAll, m::receiveAll);
                break;
            default:
                both(told, "undo", x::undo, m::undo);
                break;
        }
    }

    private static void set(PairedChannels x, Model m, StringBuilder told) {
        int setting = below(12) == 0 ? between(-1, 4) : below(4);
        int value;
        switch (setting) {
            case 0:
                value = below(3) == 0 ? between(0, 3) : between(990, 1001);
                value = below(2) == 0 ? between(1, 999) : value;
                break;
            case 3:
                value = below(4) == 0 ? between(95, 101) : between(0, 20);
                break;
            default:
                value = between(-1, 5);
                break;
        }
        int chosen = value;
        both(told, "set " + setting + " " + chosen,
                () -> x.set(setting, chosen), () -> m.set(setting, chosen));
    }

    private static String text(Model m) {
        int values = below(5) == 0 ? between(1, 18) : between(1, m.count(0));
        StringBuilder text = new StringBuilder();
        for (int i = 0; i < values; i++) {
            text.append(i == 0 ? "" : ",").append(below(3) == 0 ? "-" : "");
            text.append(below(4) == 0 ? below(100) : below(10));
        }
        return text.toString();
    }

    private static String signs() {
        StringBuilder text = new StringBuilder();
        for (int i = below(4); i >= 0; i--) {
            text.append("0123-,9x-,".charAt(below(10)));
        }
        return text.toString();
    }

    private static void write(PairedChannels x, Model m, StringBuilder told, String text) {
        if (below(3) > 0) {
            both(told, "clearBuffer", x::clearBuffer, m::clearBuffer);
        }
        for (char sign : text.toCharArray()) {
            both(told, "append " + (int) sign, () -> x.append(sign), () -> m.append(sign));
        }
        both(told, "firstError", x::firstError, m::firstError);
        if (below(3) > 0) {
            both(told, "receiveAll", x::receiveAll, m::receiveAll);
        }
    }

    private static void look(PairedChannels x, Model m, String told) {
        StringBuilder line = new StringBuilder(told);
        int place = place(m);
        int what = between(-1, 9);
        int body = body(m);
        switch (below(13)) {
            case 0:
                both(line, "place " + place + " " + what,
                        () -> x.place(place, what), () -> m.place(place, what));
                break;
            case 1:
                int bits = below(6) == 0 ? between(65530, 65540) : between(-1, 65535);
                both(line, "code " + bits, () -> x.code(bits), () -> m.code(bits));
                break;
            case 2:
                both(line, "word " + body, () -> x.word(body), () -> m.word(body));
                break;
            case 3:
                both(line, "read " + what, () -> x.read(what), () -> m.read(what));
                break;
            case 4:
                int rank = between(-1, 5);
                int about = between(-1, 3);
                both(line, "path " + rank + " " + about,
                        () -> x.path(rank, about), () -> m.path(rank, about));
                break;
            case 5:
                both(line, "heard " + place, () -> x.heard(place), () -> m.heard(place));
                break;
            case 6:
                both(line, "count " + what, () -> x.count(what), () -> m.count(what));
                break;
            case 7:
                both(line, "setting " + what, () -> x.setting(what), () -> m.setting(what));
                break;
            case 8:
                both(line, "ifFlipped " + place,
                        () -> x.ifFlipped(place), () -> m.ifFlipped(place));
                break;
            case 9:
                int paths = between(0, 5);
                both(line, "ifPaths " + paths, () -> x.ifPaths(paths), () -> m.ifPaths(paths));
                break;
            case 10:
                both(line, "weakest", x::weakest, m::weakest);
                break;
            case 11:
                both(line, "borne", x::borne, m::borne);
                break;
            default:
                both(line, "firstError", x::firstError, m::firstError);
                calls++;
                CHECKS.dueShare(told + " unsureShare", x.unsureShare(), m.unsureShare());
                break;
        }
    }
}
