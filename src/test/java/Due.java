import java.util.NoSuchElementException;

/** What the tests share: texts told sign by sign, and answers compared with those that are due. */
final class Due {
    private final String name;
    private String about = "";
    private int asked = 0;
    private int wrong = 0;

    Due(String name) {
        this.name = name;
    }

    /** A call that is expected to throw. */
    interface Call {
        int answer();
    }

    /** THE TEXT becomes this one. */
    static void tell(StorksLet storks, String text) {
        storks.end(0);
        for (int i = 0; i < text.length(); i += 4) {
            int v = 0;
            for (int k = 0; k < 4; k++) {
                v = v << 8 | (i + k < text.length() ? text.charAt(i + k) : 0);
            }
            storks.sign(v);
        }
        storks.end(text.length());
    }

    static StorksLet town(String... texts) {
        StorksLet storks = new StorksLet();
        for (String text : texts) {
            tell(storks, text);
            if (storks.town() < 0) {
                throw new IllegalArgumentException(text);
            }
        }
        return storks;
    }

    static int addTown(StorksLet storks, String text) {
        tell(storks, text);
        return storks.town();
    }

    static int rule(StorksLet storks, String text) {
        tell(storks, text);
        return storks.rule();
    }

    static int frost(StorksLet storks, String text) {
        tell(storks, text);
        return storks.frost();
    }

    static int spring(StorksLet storks, String text) {
        tell(storks, text);
        return storks.spring();
    }

    static int aim(StorksLet storks, String text) {
        tell(storks, text);
        return storks.aim();
    }

    /** Numbers that are not among these. */
    static int[] outside(int least, int most) {
        return new int[] {least - 1, least - 7, most + 1, most + 7, Integer.MIN_VALUE, Integer.MAX_VALUE};
    }

    /** What the answers asked for from now on are about. */
    void about(String what) {
        about = what;
    }

    void is(String what, long got, long want) {
        asked++;
        if (got != want) {
            wrong++;
            System.out.println(name + ": " + about + what + " answered " + got + ", due is " + want);
        }
    }

    void is(String what, boolean got, boolean want) {
        is(what, got ? 1 : 0, want ? 1 : 0);
    }

    void row(String what, StorksLet storks, int... want) {
        is(what + ", numbers of the row", storks.count(10), want.length);
        for (int i = 0; i < want.length && i < storks.count(10); i++) {
            is(what + ", row(" + i + ")", storks.row(i), want[i]);
        }
    }

    void nests(String what, StorksLet storks, int... want) {
        is(what + ", birds", storks.count(1), want.length);
        for (int b = 0; b < want.length; b++) {
            is(what + ", nest of " + b, storks.bird(b, 2), want[b]);
        }
    }

    void noSuch(String what, Call call) {
        asked++;
        try {
            int got = call.answer();
            wrong++;
            System.out.println(name + ": " + about + what + " answered " + got + ", due is NoSuchElementException");
        } catch (NoSuchElementException due) {
            // It is due.
        }
    }

    /** Prints the sum and ends with 1 if an answer was wrong. */
    void finish() {
        System.out.println(name + ": " + about + asked + " answers, " + wrong + " wrong");
        if (wrong > 0) {
            System.exit(1);
        }
    }
}
