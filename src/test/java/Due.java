/** Counts the answers that are not as due, and tells each. */
final class Due {
    private final String suite;
    private int asked;
    private int wrong;

    Due(String suite) {
        this.suite = suite;
    }

    void is(String what, long got, long want) {
        asked++;
        if (got != want) {
            wrong++;
            if (wrong <= 50) {
                System.out.println(suite + ": " + what + " answered " + got + ", due is " + want);
            }
        }
    }

    void holds(String what, boolean so) {
        is(what, so ? 1 : 0, 1);
    }

    int wrong() {
        return wrong;
    }

    /** Ends the test: with exit code 1 if an answer was not as due, or if nothing was asked. */
    void end() {
        System.out.println(suite + ": " + asked + " answers, " + wrong + " not as due");
        if (wrong != 0 || asked == 0) {
            System.exit(1);
        }
    }

    static void write(LateLetters x, String text) {
        for (int i = 0; i < text.length(); i++) {
            x.write(text.charAt(i));
        }
    }

    /** A new object with a TELLING. */
    static LateLetters told(String text) {
        LateLetters x = new LateLetters();
        write(x, text);
        if (x.telling() < 0) {
            throw new IllegalArgumentException("no TELLING: " + text + ", fault at " + x.fault());
        }
        return x;
    }
}
