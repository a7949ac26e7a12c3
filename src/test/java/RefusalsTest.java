import java.util.Arrays;
import java.util.List;

/**
 * Each number of each call: the least and the greatest that is allowed, and those on either side that are not;
 * each refusal, which comes first where several fit, and that it changes nothing (a FINDING: nothing but count() 8).
 */
public final class RefusalsTest {
    private static final Check CHECK = new Check("refusals");
    private static final int LEAST = Integer.MIN_VALUE, MOST = Integer.MAX_VALUE;
    private static final int NULL = 1, INDEX = 2, CAST = 3, STORE = 4, SIZE = 5;
    private static final String EIGHTY = "x".repeat(80);
    private static final String TWENTY = "001" + ";001".repeat(19);

    public static void main(String[] args) {
        numbersOfRecords();
        numbersOfSet();
        numbersOfNights();
        numbersOfHeard();
        numbersOfSheets();
        none();
        full();
        badAheadOfFull();
        lost();
        index();
        cast();
        store();
        size();
        badAheadOfFindings();
        nullAheadOfFindings();
        badOfEachNumberAtOnce();
        questionsChangeNothing();
        CHECK.end();
    }

    // ---- how a refusal is looked at

    private static int[] five(int[] a) {
        return Arrays.copyOf(a, 5);
    }

    /** Two like objects: one is asked, one is not; then they tell the same, but for a FINDING. */
    private static void refused(String text, int heards, int finding, long due, String name, int... args) {
        int call = Calls.numberOf(name);
        int earlier = finding == NULL ? SIZE : NULL;
        ThirdFavour asked = State.make(text, heards, earlier);
        ThirdFavour other = State.make(text, heards, earlier);
        String told = Calls.told(call, five(args));
        CHECK.due(told, Calls.answer(asked, call, five(args)), due);
        List<Long> was = State.readAll(other);
        List<Long> is = State.readAll(asked);
        CHECK.due(told + ", the latest FINDING", is.get(State.FINDING), finding == 0 ? earlier : finding);
        was.set(State.FINDING, is.get(State.FINDING));
        CHECK.holds(told + " changes nothing", was.equals(is));
    }

    private static void bad(String text, int heards, String name, int... args) {
        refused(text, heards, 0, Calls.badOf(Calls.numberOf(name)), name, args);
    }

    private static void bad(String name, int... args) {
        bad(State.FOUR_COINS, 2, name, args);
    }

    private static void found(int finding, String name, int... args) {
        refused(State.FOUR_COINS, 2, finding, name.equals("get") ? LEAST : -10 - finding, name, args);
    }

    private static void notBad(String text, String name, int... args) {
        int call = Calls.numberOf(name);
        ThirdFavour x = State.make(text, 2, SIZE);
        boolean refused = Calls.answer(x, call, five(args)) == Calls.badOf(call) && x.count(8) == SIZE;
        CHECK.holds(Calls.told(call, five(args)) + " is allowed", !refused);
    }

    private static int[] with(int[] args, int place, int v) {
        int[] changed = args.clone();
        changed[place] = v;
        return changed;
    }

    /** All others as they are, the number at a place is least to most; far ones have the lowest bits of near ones. */
    private static void number(String text, String name, int place, int least, int most, int... args) {
        for (int v = least; v <= most; v++) {
            notBad(text, name, with(args, place, v));
        }
        int[] outside = {least - 1, most + 1, LEAST, MOST, least + 256, most - 256, least + 65536, most - 65536,
            LEAST + Math.max(least, 0), LEAST + most, MOST - most};
        for (int v : outside) {
            bad(text, 2, name, with(args, place, v));
        }
    }

    private static void number(String name, int place, int least, int most, int... args) {
        number(State.FOUR_COINS, name, place, least, most, args);
    }

    // ---- the least and the greatest

    private static void numbersOfRecords() {
        number("record", 0, 0, 9, 0, 4);
        number("record", 1, 1, 9, 0, 4);
        number("scratch", 0, 0, 9, 0, 4, 4);
        number("scratch", 1, 0, 8, 0, 4, 4);
        number("scratch", 2, -1, 9, 0, 4, 4);
        number("plays", 0, 0, 9, 0);
        number("groove", 0, 0, 9, 0, 4);
        number("groove", 1, 0, 59, 0, 4);
        number("loops", 0, 0, 9, 0);
        number("wax", 0, 0, 9, 0, 0);
        number("wax", 1, 0, 1, 0, 0);
        number("type", 0, 0, 255, 0);
    }

    private static void numbersOfSet() {
        number("set", 1, 1, 60, 0, 1);
        number("set", 1, 0, 3, 1, 1);
        number("set", 1, 1, 99, 2, 1);
        number("set", 1, 0, 99, 3, 1);
        number("set", 0, 0, 3, 0, 1);
    }

    private static void numbersOfNights() {
        number("coin", 0, 0, 3, 0, 0);
        number("coin", 1, 0, 1, 0, 0);
        number("at", 0, 0, 199, 0);
        number("served", 0, 0, 3, 0, 0);
        number("served", 1, 0, 2, 0, 0);
        number("night", 0, 0, 3, 0, 0);
        number("night", 1, 0, 2, 0, 0);
        number("times", 0, 0, 9, 0);
        number("ask", 0, 2, 99, 50, 0, 50, 0);
        number("ask", 1, 0, 9, 50, 0, 50, 0);
        number("ask", 2, 0, 199, 50, 0, 50, 0);
        number("ask", 3, 0, 2, 50, 0, 50, 0);
        number("stuck", 0, 0, 3, 0, 0);
        number("stuck", 1, -1, 9, 0, 0);
        number(TWENTY, "coin", 0, 0, 19, 0, 0);
        number(TWENTY, "served", 0, 0, 19, 0, 0);
        number(TWENTY, "stuck", 0, 0, 19, 0, 0);
        number("", "ask", 0, 0, 99, 50, 0, 50, 0);
        number("990", "ask", 0, 99, 99, 99, 0, 99, 0);
    }

    private static void numbersOfHeard() {
        number("heard", 0, 0, 199, 0, 0);
        number("heard", 1, -1, 9, 0, 0);
        number("next", 0, 0, 9, 0, 0);
        number("next", 1, 0, 1, 0, 0);
        number("since", 0, 0, 9, 0);
        number("count", 0, 0, 8, 0);
    }

    private static void numbersOfSheets() {
        number("read", 0, 0, 3, 0);
        number("sheet", 0, 0, 3, 0, 0, 4);
        number("sheet", 1, 0, 2, 0, 0, 4);
        number("lose", 0, 0, 3, 0);
        number("lay", 0, 0, 3, 0, 0, 0, 1);
        number("lay", 1, 0, 2, 0, 0, 0, 1);
        number("get", 0, 0, 3, 0, 0, 0);
        number("get", 1, 0, 2, 0, 0, 0);
        number("copy", 0, 0, 3, 0, 0, 0, 0, 1);
        number("copy", 2, 0, 3, 0, 0, 0, 0, 1);
        number("write", 0, 0, 3, 0);
        for (int n = 0; n <= 60; n++) {
            notBad(State.FOUR_COINS, "sheet", 0, 0, n);
        }
        for (int n : new int[] {61, 256, 256 + 60, 65536, MOST}) {
            bad("sheet", 0, 0, n);
        }
    }

    // ---- NOT, FULL, and which is first

    /** Of no COINS, and of a text with a FAULT, which has none, none is there. */
    private static void none() {
        for (String text : new String[] {"", "0", "001;", EIGHTY, TWENTY + ";", "001;00x"}) {
            refused(text, 2, 0, -3, "undo");
            bad(text, 2, "coin", 0, 0);
            bad(text, 2, "served", 0, 0);
            bad(text, 2, "stuck", 0, -1);
            bad(text, 2, "stuck", 0, 0);
        }
    }

    private static void full() {
        refused(EIGHTY, 2, 0, -4, "type", '0');
        refused(TWENTY + ";", 2, 0, -4, "type", '0');
        refused(TWENTY + ";", 2, 0, -4, "type", 0);
        refused(TWENTY + ";", 2, 0, -4, "type", 255);
        refused(State.FOUR_COINS, 8, 0, -4, "heard", 0, -1);
        refused(State.FOUR_COINS, 8, 0, -4, "heard", 199, 9);
        for (int what = 0; what <= 2; what++) {
            refused(TWENTY, 2, 0, -4, "ask", 99, 9, 199, what);
            refused(TWENTY.substring(4), 2, 0, -4, "ask", 99, 9, 199, what);
            refused(TWENTY.substring(8), 2, 0, -1, "ask", 99, 9, 199, what);
        }
    }

    private static void badAheadOfFull() {
        for (int b : new int[] {-1, 256, LEAST, MOST}) {
            bad(EIGHTY, 2, "type", b);
        }
        for (int minute : new int[] {-1, 200}) {
            bad(State.FOUR_COINS, 8, "heard", minute, 0);
        }
        for (int record : new int[] {-2, 10}) {
            bad(State.FOUR_COINS, 8, "heard", 0, record);
        }
        bad(TWENTY, 2, "ask", -1, 9, 199, 0);
        bad(TWENTY, 2, "ask", 100, 9, 199, 0);
        bad(TWENTY, 2, "ask", 99, -1, 199, 0);
        bad(TWENTY, 2, "ask", 99, 10, 199, 0);
        bad(TWENTY, 2, "ask", 99, 9, -1, 0);
        bad(TWENTY, 2, "ask", 99, 9, 200, 0);
        bad(TWENTY, 2, "ask", 99, 9, 199, -1);
        bad(TWENTY, 2, "ask", 99, 9, 199, 3);
        bad(TWENTY.replace("00", "50"), 2, "ask", 49, 9, 199, 0);
    }

    // ---- FINDINGS, and which is first

    private static void lost() {
        found(NULL, "read", 3);
        found(NULL, "lose", 3);
        found(NULL, "write", 3);
        found(NULL, "lay", 3, 0, 0, 1);
        found(NULL, "get", 3, 0, 0);
        found(NULL, "copy", 3, 0, 0, 0, 1);
        found(NULL, "copy", 0, 0, 3, 0, 1);
        found(NULL, "copy", 3, 0, 3, 0, 0);
    }

    private static void index() {
        int[] numbers = {3, 2, 4};
        for (int s = 0; s < 3; s++) {
            for (int i : new int[] {-1, numbers[s], 59, 60, 256, 65536, LEAST, MOST}) {
                found(INDEX, "lay", s, s, i, 1);
                found(INDEX, "get", s, s, i);
            }
        }
        int[][] runs = {{-1, 0, 1}, {0, -1, 1}, {0, 0, -1}, {-1, 0, 0}, {0, -1, 0}, {4, 0, 0}, {0, 4, 0}, {3, 0, 1},
            {0, 3, 1}, {0, 0, 4}, {1, 0, 3}, {0, 1, 3}, {1, 1, MOST}, {MOST, 0, 1}, {0, MOST, 1}, {MOST, MOST, MOST},
            {LEAST, 0, 0}, {0, LEAST, 0}, {0, 0, LEAST}, {MOST, 0, 0}, {3, 3, -1}, {3, 3, -3}, {256, 0, 1}, {0, 256, 1}};
        for (int[] r : runs) {
            found(INDEX, "copy", 0, r[0], 0, r[1], r[2]);
        }
    }

    private static void cast() {
        for (int s = 0; s < 3; s++) {
            for (int form = 0; form < 3; form++) {
                if (form != s) {
                    for (int i : new int[] {0, -1, 4, LEAST, MOST}) {
                        found(CAST, "lay", s, form, i, 1);
                        found(CAST, "get", s, form, i);
                    }
                }
            }
        }
    }

    private static void store() {
        for (int s = 0; s < 3; s++) {
            for (int t = 0; t < 3; t++) {
                if (t != s) {
                    found(STORE, "copy", s, 0, t, 0, 1);
                    found(STORE, "copy", s, 0, t, 0, 0);
                    found(STORE, "copy", s, -1, t, 0, 1);
                    found(STORE, "copy", s, 0, t, 9, 1);
                    found(STORE, "copy", s, 0, t, 0, -1);
                    found(STORE, "copy", s, LEAST, t, MOST, MOST);
                }
            }
        }
    }

    private static void size() {
        for (int s = 0; s < 4; s++) {
            for (int form = 0; form < 3; form++) {
                found(SIZE, "sheet", s, form, -1);
                found(SIZE, "sheet", s, form, -256);
                found(SIZE, "sheet", s, form, LEAST);
            }
        }
    }

    private static void badAheadOfFindings() {
        bad("sheet", -1, 0, -1);
        bad("sheet", 4, 0, -1);
        bad("sheet", 0, -1, -1);
        bad("sheet", 0, 3, LEAST);
        bad("lay", 4, 0, -1, 1);
        bad("lay", 3, 3, 0, 1);
        bad("lay", 3, -1, 0, 1);
        bad("lay", 0, 3, 9, 1);
        bad("get", 4, 0, -1);
        bad("get", 3, 3, 0);
        bad("get", 3, -1, 0);
        bad("get", 0, 3, 9);
        bad("copy", 3, 0, 4, 0, 1);
        bad("copy", 4, 0, 3, 0, 1);
        bad("copy", 3, 0, -1, 0, 1);
        bad("copy", -1, 0, 3, 0, 1);
        bad("copy", 0, -1, 4, -1, -1);
        bad("copy", 4, -1, 0, -1, -1);
    }

    private static void nullAheadOfFindings() {
        for (int form = 0; form < 3; form++) {
            found(NULL, "lay", 3, form, -1, 1);
            found(NULL, "lay", 3, form, 60, 1);
            found(NULL, "get", 3, form, -1);
            found(NULL, "get", 3, form, 60);
        }
        for (int s = 0; s < 4; s++) {
            found(NULL, "copy", s, -1, 3, 0, 1);
            found(NULL, "copy", 3, 0, s, -1, 1);
            found(NULL, "copy", 3, 0, s, 0, -1);
            found(NULL, "copy", s, 0, 3, 0, MOST);
        }
    }

    private static void badOfEachNumberAtOnce() {
        for (int call = 0; call < Calls.NAMES.length; call++) {
            if (Calls.ARGUMENTS[call] > 0) {
                for (int v : new int[] {LEAST, MOST, -3, 1000}) {
                    int[] all = new int[5];
                    Arrays.fill(all, v);
                    bad(Calls.NAMES[call], all);
                }
            }
        }
    }

    /** What only asks leaves all as it is. */
    private static void questionsChangeNothing() {
        String[] questions = {"fault", "plays", "groove", "loops", "wax", "coin", "at", "served", "night", "best", "times",
            "first", "ask", "stuck", "laws", "next", "since", "get", "count", "digest"};
        for (String text : new String[] {"", State.FOUR_COINS, TWENTY.substring(8), TWENTY, "001;"}) {
            ThirdFavour asked = State.make(text, 2, SIZE);
            for (String name : questions) {
                int call = Calls.numberOf(name);
                for (int v = 0; v < 3; v++) {
                    int[] args = name.equals("get") ? new int[] {2, 2, v, 0, 0} : new int[] {v, 1, 5, v, 0};
                    args[0] = name.equals("ask") ? 2 : args[0];
                    Calls.answer(asked, call, args);
                }
            }
            CHECK.holds("questions change nothing with '" + text + "'",
                State.readAll(asked).equals(State.readAll(State.make(text, 2, SIZE))));
        }
    }
}
