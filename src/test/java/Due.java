/** Counts answers that are not as due, tells them, and ends a test by them. */
final class Due {
    private final String test;
    private String words = "";
    private int sentences = 0;
    private int asked = 0;
    private int wrong = 0;

    Due(String test) {
        this.test = test;
    }

    /** The document's words by which the answers from here on are due. */
    void by(String words) {
        this.words = words;
        sentences++;
    }

    void is(String call, int got, int want) {
        asked++;
        if (got != want) {
            tell(call + " answered " + got + ", due is " + want);
        }
    }

    void holds(String what, boolean is) {
        asked++;
        if (!is) {
            tell(what + " does not hold");
        }
    }

    void same(String what, String got, String want) {
        asked++;
        if (!got.equals(want)) {
            tell(what + ": " + got + ", due is " + want);
        }
    }

    void end() {
        String by = sentences == 0 ? "" : sentences + " sentences, ";
        System.out.println(test + ": " + by + asked + " answers, " + wrong + " not as due");
        if (wrong != 0) {
            System.exit(1);
        }
    }

    private void tell(String line) {
        wrong++;
        System.out.println(test + ": " + line + (words.isEmpty() ? "" : " (\"" + words + "\")"));
    }
}
