/** Compares answers with those that are due; end() leaves with exit code 1 if one was wrong. */
final class Due {
    private final String test;
    private int asked;
    private int wrong;

    Due(String test) {
        this.test = test;
    }

    void is(String call, long got, long want) {
        asked++;
        if (got != want) {
            wrong++;
            System.out.println(test + ": " + call + " answered " + got + ", due is " + want);
        }
    }

    void is(String call, boolean got, boolean want) {
        asked++;
        if (got != want) {
            wrong++;
            System.out.println(test + ": " + call + " answered " + got + ", due is " + want);
        }
    }

    /** The tokens of a scanner as one text, "begin+length:kind/looked", with the failure last. */
    void found(String after, EditedScanner scanner, String want) {
        asked++;
        String got = Samples.found(scanner);
        if (!got.equals(want)) {
            wrong++;
            System.out.println(test + ": after " + after + " found " + got + ", due is " + want);
        }
    }

    boolean hasWrong() {
        return wrong > 0;
    }

    void end() {
        if (asked == 0) {
            System.out.println(test + ": nothing was asked");
        }
        if (wrong > 0 || asked == 0) {
            System.exit(1);
        }
    }
}
