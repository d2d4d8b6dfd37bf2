/** A test for each sentence of the promises 10 to 14 that names a boundary case. */
public final class TextsTests {
    private static final Class<IllegalArgumentException> ARGUMENT = IllegalArgumentException.class;
    private static final Class<IllegalStateException> STATE = IllegalStateException.class;
    private static final int LEAST = Integer.MIN_VALUE;
    private static final int MOST = Integer.MAX_VALUE;
    private static final Checks CHECKS = new Checks("sentences of the promises 10 to 14");

    public static void main(String[] args) {
        append();
        clearBuffer();
        firstError();
        receiveAll();
        receiveAllThrows();
        undo();
        CHECKS.end();
    }

    private static void due(String call, long got, long want) {
        CHECKS.due(call, got, want);
    }

    private static void dueText(String call, String got, String want) {
        CHECKS.dueText(call, got, want);
    }

    // ---- promise 10

    private static void append() {
        CHECKS.sentence("Promise 10: `code`: the character code, 33 to 126", () -> {
            PairedChannels x = new PairedChannels();
            for (int code = 33; code <= 126; code++) {
                due("append(" + code + ")", x.append(code), 1);
                x.clearBuffer();
            }
        });
        CHECKS.sentence("Promise 10: Returns the new length of the buffer.", () -> {
            PairedChannels x = new PairedChannels();
            for (int length = 1; length <= 60; length++) {
                due("append", x.append(33 + length), length);
            }
            x.clearBuffer();
            due("append to a cleared buffer", x.append(33), 1);
            x.clearBuffer();
            x.append('7');
            x.receiveAll();
            due("append behind receiveAll", x.append(33), 1);
        });
        CHECKS.sentence("Promise 10: append is not undoable", () -> {
            PairedChannels x = new PairedChannels();
            x.append(33);
            due("count(8)", x.count(8), 0);
            CHECKS.throwsOf(x, "undo() behind append", STATE, x::undo);
        });
        CHECKS.sentence("Promise 10: Throws `IllegalArgumentException` if code is not 33 to 126",
                () -> {
            PairedChannels empty = new PairedChannels();
            PairedChannels full = Given.withBuffer(Given.repeated("~", 60));
            int[] wrong = {32, 127, 0, -1, 128, 255, 33 + 256, 33 + 65536, -33, LEAST, MOST};
            for (int code : wrong) {
                CHECKS.throwsOf(empty, "append(" + code + ") to none", ARGUMENT,
                        () -> empty.append(code));
                CHECKS.throwsOf(full, "append(" + code + ") to 60", ARGUMENT,
                        () -> full.append(code));
            }
        });
        CHECKS.sentence("Promise 10: Throws `IllegalStateException` if the buffer has 60 characters",
                () -> {
            PairedChannels x = Given.withBuffer(Given.repeated("!", 59));
            due("append to 59", x.append(126), 60);
            CHECKS.throwsOf(x, "append(33) to 60", STATE, () -> x.append(33));
            CHECKS.throwsOf(x, "append(126) to 60", STATE, () -> x.append(126));
            x.flip(0);
            x.undo();
            CHECKS.throwsOf(x, "append(33) behind undo", STATE, () -> x.append(33));
        });
    }

    // ---- promise 11

    private static void clearBuffer() {
        CHECKS.sentence("Promise 11: Clears the buffer.", () -> {
            PairedChannels x = Given.withBuffer(Given.repeated("9", 60));
            x.clearBuffer();
            due("firstError() then", x.firstError(), 0);
            CHECKS.throwsOf(x, "receiveAll() then", ARGUMENT, x::receiveAll);
            Given.write(x, Given.repeated("1,", 7) + "1");
            due("receiveAll() of what is written then", x.receiveAll(), 8);
        });
        CHECKS.sentence("Promise 11: clearBuffer is not undoable", () -> {
            PairedChannels x = Given.withBuffer("1");
            x.clearBuffer();
            due("count(8)", x.count(8), 0);
            CHECKS.throwsOf(x, "undo() behind clearBuffer", STATE, x::undo);
        });
        CHECKS.sentence("Promise 11: Returns the length that it had.", () -> {
            for (int length : new int[] {0, 1, 59, 60}) {
                PairedChannels x = Given.withBuffer(Given.repeated("9", length));
                due("clearBuffer() of " + length, x.clearBuffer(), length);
                due("clearBuffer() again", x.clearBuffer(), 0);
            }
        });
    }

    // ---- promise 12

    private static void dueError(String text, int index) {
        PairedChannels x = Given.withBuffer(text);
        due("firstError() of " + text, x.firstError(), index);
        due("clearBuffer() behind firstError()", x.clearBuffer(), text.length());
    }

    private static void firstError() {
        CHECKS.sentence("Promise 12: Finds the first syntax error of the buffer.", () -> {
            dueError("x", 0);
            dueError("xxx", 0);
            dueError("1x,x", 1);
            dueError("01,01", 1);
            dueError("--", 1);
            dueError("-1-", 2);
            dueError("123", 2);
            dueError("-123", 3);
            dueError("1,,", 2);
            dueError("1,-,", 3);
            dueError("1,2,00", 5);
            dueError("1,2,-00", 6);
            dueError(Given.repeated("9,", 15) + "9,", 31);
            dueError(Given.repeated("-99,", 14) + "-999", 59);
            dueError(Given.repeated("x", 60), 0);
        });
        CHECKS.sentence("Promise 12: a character is a syntax error by what stands before it", () -> {
            // behind each of these texts: which of the 94 characters may follow
            String digits = "0123456789";
            dueFollowing("", "-" + digits);
            dueFollowing("-", digits);
            dueFollowing("0", ",");
            dueFollowing("-0", ",");
            dueFollowing("1", "," + digits);
            dueFollowing("-9", "," + digits);
            dueFollowing("10", ",");
            dueFollowing("-99", ",");
            dueFollowing("5,", "-" + digits);
            dueFollowing(Given.repeated("0,", 15), "-" + digits);
            dueFollowing(Given.repeated("0,", 15) + "-", digits);
            dueFollowing(Given.repeated("0,", 14) + "1", "," + digits);
            dueFollowing(Given.repeated("0,", 15) + "1", digits);
            dueFollowing(Given.repeated("0,", 15) + "-1", digits);
            dueFollowing(Given.repeated("0,", 15) + "0", "");
            dueFollowing(Given.repeated("0,", 15) + "10", "");
        });
        CHECKS.sentence("Promise 12: Returns the index of the first character that is a syntax "
                + "error", () -> {
            dueError(",", 0);
            dueError("/", 0);
            dueError(":", 0);
            dueError("9:", 1);
            dueError("9/", 1);
            dueError(Given.repeated("-99,", 14) + "1,2.", 59);
        });
        CHECKS.sentence("Promise 12: the length of the buffer if there is none", () -> {
            dueError("", 0);
            dueError("-", 1);
            dueError("0", 1);
            dueError("1,", 2);
            dueError("1,-", 3);
            dueError(Given.repeated("-99,", 15), 60);
            dueError(Given.repeated("0,", 15) + "-99", 33);
            // more values than places are no syntax error
            PairedChannels x = new PairedChannels();
            x.begin(1);
            Given.write(x, "1,2,3");
            due("firstError() of three values for two places", x.firstError(), 5);
        });
    }

    private static void dueFollowing(String before, String following) {
        PairedChannels x = Given.withBuffer(before);
        due("firstError() of " + before, x.firstError(), before.length());
        for (int code = 33; code <= 126; code++) {
            PairedChannels y = Given.withBuffer(before);
            y.append(code);
            boolean mayFollow = following.indexOf(code) >= 0;
            due("firstError() of " + before + (char) code, y.firstError(),
                    before.length() + (mayFollow ? 1 : 0));
        }
    }

    // ---- promise 13

    private static void receiveAll() {
        CHECKS.sentence("Promise 13: Receives the values in the buffer, from the place 0 on (places "
                + "behind them get 0)", () -> {
            PairedChannels x = Given.received(9, 9, 9, 9);
            Given.write(x, "-5");
            x.receiveAll();
            dueText("values of -5", Given.values(x), "-5,0,0,0");
            Given.write(x, "1,-2,-0,99");
            x.receiveAll();
            dueText("values of 1,-2,-0,99", Given.values(x), "1,-2,0,99");
            Given.write(x, "-99,10,-10");
            x.receiveAll();
            dueText("values of -99,10,-10", Given.values(x), "-99,10,-10,0");
            Given.write(x, "0");
            x.receiveAll();
            dueText("values of 0", Given.values(x), "0,0,0,0");
        });
        CHECKS.sentence("Promise 13: and clears the buffer", () -> {
            PairedChannels x = Given.withBuffer("1,2");
            x.receiveAll();
            due("clearBuffer() behind receiveAll()", x.clearBuffer(), 0);
            Given.write(x, "7");
            due("receiveAll() of a second text", x.receiveAll(), 1);
            CHECKS.throwsOf(x, "receiveAll() of a text twice", ARGUMENT, x::receiveAll);
        });
        CHECKS.sentence("Promise 13: Undoable.", () -> {
            PairedChannels x = Given.opened(0b10, 1, 3, -4);
            String before = Given.values(x);
            int saved = x.count(8);
            Given.write(x, "-7,-8");
            x.receiveAll();
            due("count(8)", x.count(8), saved + 1);
            Given.write(x, "5");
            due("undo()", x.undo(), saved);
            dueText("values behind undo()", Given.values(x), before);
            due("clearBuffer() behind undo()", x.clearBuffer(), 1);
        });
        CHECKS.sentence("Promise 13: Returns how many there are.", () -> {
            for (int k = 1; k <= 4; k++) {
                PairedChannels x = new PairedChannels();
                int n = x.begin(k);
                for (int many = 1; many <= n; many++) {
                    Given.write(x, Given.repeated("7,", many - 1) + "7");
                    due("receiveAll() of " + many + " for " + n, x.receiveAll(), many);
                    due("values that are 0", x.count(4), n - many);
                }
            }
        });
    }

    private static void receiveAllThrows() {
        CHECKS.sentence("Promise 13: Throws `IllegalArgumentException` if the buffer does not tell "
                + "values as a text", () -> {
            String fifteen = Given.repeated("1,", 15);
            String[] wrong = {"", "-", ",", "1,", "1,-", "1,2,", "1,,2", "00", "01", "-00", "100",
                "-100", "x", "1x", "1,2,x", fifteen, fifteen + "-", fifteen + "1,",
                fifteen + "1,1", fifteen + "01", "1,2,3,4,5,6,7,8,9,", "1,2,3,4,5,6,7,8,9,-",
                "1,2,3,4,5,6,7,8,99x", Given.repeated("-99,", 15), Given.repeated("1", 60)};
            for (String text : wrong) {
                PairedChannels x = Given.withBuffer(text);
                x.receive(0, 42);
                CHECKS.throwsOf(x, "receiveAll() of " + text, ARGUMENT, x::receiveAll);
                CHECKS.throwsOf(x, "receiveAll() again of " + text, ARGUMENT, x::receiveAll);
                due("clearBuffer() then", x.clearBuffer(), text.length());
            }
        });
        CHECKS.sentence("Promise 13: Throws `IllegalStateException` if there are more values than "
                + "places", () -> {
            for (int k = 1; k <= 3; k++) {
                for (int many : new int[] {(1 << k) + 1, 16}) {
                    PairedChannels x = new PairedChannels();
                    x.begin(k);
                    x.receive(0, 42);
                    Given.write(x, Given.repeated("7,", many - 1) + "-7");
                    CHECKS.throwsOf(x, "receiveAll() of " + many, STATE, x::receiveAll);
                    dueText("the value then", "" + x.place(0, 3), "142");
                    // the text stays, and has room when there are more places
                    x.begin(4);
                    due("receiveAll() of " + many + " for 16", x.receiveAll(), many);
                    due("the last value", x.place(many - 1, 3), 93);
                }
            }
        });
    }

    // ---- promise 14

    private static void undo() {
        CHECKS.sentence("Promise 14: Restores the latest saved state, and drops it.", () -> {
            PairedChannels x = new PairedChannels();
            long first = x.digest();
            x.begin(4);
            x.open(16);
            x.set(0, 999);
            x.set(1, 4);
            x.send(65535);
            due("undo() of send", x.undo(), 4);
            due("count(5)", x.count(5), 0);
            due("undo() of set(1)", x.undo(), 3);
            due("setting(1)", x.setting(1), 1);
            due("undo() of set(0)", x.undo(), 2);
            due("setting(0)", x.setting(0), 500);
            due("undo() of open", x.undo(), 1);
            due("count(1)", x.count(1), 0);
            due("undo() of begin", x.undo(), 0);
            due("digest() of the first state", x.digest(), first);
        });
        CHECKS.sentence("Promise 14: undo is not undoable", () -> {
            PairedChannels x = new PairedChannels();
            x.receive(0, 1);
            x.receive(0, 2);
            due("undo()", x.undo(), 1);
            due("the value", x.place(0, 3), 101);
            due("undo() again", x.undo(), 0);
            due("the value", x.place(0, 3), 100);
        });
        CHECKS.sentence("Promise 14: what is read is that of the state restored", () -> {
            PairedChannels x = Given.opened(0b10, 2, 0, 5);
            dueText("paths", Given.paths(x), "0:0! 1:5!");
            x.flip(1);
            dueText("paths behind flip(1)", Given.paths(x), "1:0! 0:5!");
            x.undo();
            dueText("paths behind undo()", Given.paths(x), "0:0! 1:5!");
            dueText("heard behind undo()", Given.heard(x), "0,5");
        });
        CHECKS.sentence("Promise 14: Returns how many saved states are left.", () -> {
            PairedChannels x = new PairedChannels();
            for (int i = 0; i < 7; i++) {
                x.flip(0);
            }
            for (int left = 5; left >= 0; left--) {
                due("undo()", x.undo(), left);
                due("count(8)", x.count(8), left);
            }
        });
        CHECKS.sentence("Promise 14: Throws `IllegalStateException` if there is none", () -> {
            PairedChannels x = Given.withBuffer("1");
            CHECKS.throwsOf(x, "undo() of a new object", STATE, x::undo);
            x.flip(0);
            x.undo();
            CHECKS.throwsOf(x, "undo() behind flip and undo", STATE, x::undo);
            Checks.outcome(() -> x.begin(0));
            CHECKS.throwsOf(x, "undo() behind a refused call", STATE, x::undo);
            for (int i = 0; i < 6; i++) {
                x.flip(0);
            }
            for (int i = 0; i < 6; i++) {
                x.undo();
            }
            CHECKS.throwsOf(x, "undo() behind six", STATE, x::undo);
        });
    }
}
