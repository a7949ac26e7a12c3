/** Counts and prints the answers that are not due. */
final class Check {
    private final String what;
    private int calls = 0;
    private int wrong = 0;

    Check(String what) {
        this.what = what;
    }

    void due(String call, long got, long want) {
        calls++;
        if (got != want) {
            wrong++;
            if (wrong <= 50) {
                System.out.println(what + ": " + call + " answered " + got + ", due is " + want);
            }
        }
    }

    void holds(String claim, boolean isSo) {
        due(claim, isSo ? 1 : 0, 1);
    }

    /** The type() of each sign, unasked. */
    static void typeAll(ThirdFavour x, String text) {
        for (char c : text.toCharArray()) {
            x.type(c);
        }
    }

    static ThirdFavour with(String text) {
        ThirdFavour x = new ThirdFavour();
        typeAll(x, text);
        return x;
    }

    void end() {
        System.out.println(what + ": " + calls + " answers, " + wrong + " wrong");
        if (wrong != 0 || calls == 0) {
            System.exit(1);
        }
    }
}
