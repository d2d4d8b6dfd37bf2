/** Counts and prints the answers that are not as due. */
final class Checks {
    interface Call {
        long answer();
    }

    private final String about;
    private int asked;
    private int wrong;

    Checks(String about) {
        this.about = about;
    }

    void due(String call, long got, long want) {
        asked++;
        if (got != want) {
            tell(call + " answered " + got + ", due is " + want);
        }
    }

    void dueShare(String call, double got, double want) {
        due(call + " in bits", Double.doubleToLongBits(got), Double.doubleToLongBits(want));
    }

    void dueText(String call, String got, String want) {
        asked++;
        if (!got.equals(want)) {
            tell(call + " answered " + got + ", due is " + want);
        }
    }

    /** The call must throw just this exception, and must change nothing of the object. */
    void throwsOf(PairedChannels x, String call, Class<? extends RuntimeException> want, Call made) {
        long before = x.digest();
        dueText(call, outcome(made), "throws " + want.getSimpleName());
        due("digest behind " + call + ", which throws", x.digest(), before);
    }

    static String outcome(Call made) {
        try {
            return Long.toString(made.answer());
        } catch (RuntimeException e) {
            return "throws " + e.getClass().getSimpleName();
        }
    }

    /** The test of one sentence of the document; one that asks for nothing is a fault as well. */
    void sentence(String words, Runnable test) {
        int askedBefore = asked;
        int wrongBefore = wrong;
        try {
            test.run();
        } catch (RuntimeException e) {
            tell("a call threw " + e);
        }
        if (asked == askedBefore) {
            tell("nothing was asked");
        }
        if (wrong > wrongBefore) {
            System.out.println(about + ": does not hold: " + words);
        }
    }

    void tell(String fault) {
        wrong++;
        if (wrong <= 40) {
            System.out.println(about + ": " + fault);
        }
    }

    void end() {
        System.out.println(about + ": " + asked + " answers, " + wrong + " not as due");
        if (asked == 0 || wrong != 0) {
            System.exit(1);
        }
    }
}
