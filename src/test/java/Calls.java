/** The calls of the face by their number, as the document tells them in order. */
final class Calls {
    static final String[] NAMES = {"record", "scratch", "type", "wipe", "fault", "undo", "set", "read",
        "plays", "groove", "loops", "wax", "coin", "at", "served", "night", "best", "times", "first", "ask", "stuck",
        "heard", "forget", "laws", "next", "since", "sheet", "lose", "lay", "get", "copy", "write", "count", "digest"};
    static final int[] ARGUMENTS = {2, 3, 1, 0, 0, 0, 2, 1, 1, 2, 1, 2, 2, 1, 2, 2, 0, 1, 0, 4, 2, 2, 0, 0, 2, 1,
        3, 1, 4, 3, 5, 1, 1, 0};

    private Calls() {
    }

    static int numberOf(String name) {
        for (int call = 0; call < NAMES.length; call++) {
            if (NAMES[call].equals(name)) {
                return call;
            }
        }
        throw new IllegalArgumentException(name);
    }

    static String told(int call, int[] a) {
        StringBuilder text = new StringBuilder(NAMES[call]).append("(");
        for (int i = 0; i < ARGUMENTS[call]; i++) {
            text.append(i == 0 ? "" : ", ").append(a[i]);
        }
        return text.append(")").toString();
    }

    /** BAD as the call answers it. */
    static long badOf(int call) {
        switch (NAMES[call]) {
            case "next": return Long.MIN_VALUE + 2;
            case "get": return Integer.MIN_VALUE;
            default: return -2;
        }
    }

    static long answer(ThirdFavour x, int call, int[] a) {
        switch (call) {
            case 0: return x.record(a[0], a[1]);
            case 1: return x.scratch(a[0], a[1], a[2]);
            case 2: return x.type(a[0]);
            case 3: return x.wipe();
            case 4: return x.fault();
            case 5: return x.undo();
            case 6: return x.set(a[0], a[1]);
            case 7: return x.read(a[0]);
            case 8: return x.plays(a[0]);
            case 9: return x.groove(a[0], a[1]);
            case 10: return x.loops(a[0]);
            case 11: return x.wax(a[0], a[1]);
            case 12: return x.coin(a[0], a[1]);
            case 13: return x.at(a[0]);
            case 14: return x.served(a[0], a[1]);
            case 15: return x.night(a[0], a[1]);
            case 16: return x.best();
            case 17: return x.times(a[0]);
            case 18: return x.first();
            case 19: return x.ask(a[0], a[1], a[2], a[3]);
            case 20: return x.stuck(a[0], a[1]);
            case 21: return x.heard(a[0], a[1]);
            case 22: return x.forget();
            case 23: return x.laws();
            case 24: return x.next(a[0], a[1]);
            case 25: return x.since(a[0]);
            case 26: return x.sheet(a[0], a[1], a[2]);
            case 27: return x.lose(a[0]);
            case 28: return x.lay(a[0], a[1], a[2], a[3]);
            case 29: return x.get(a[0], a[1], a[2]);
            case 30: return x.copy(a[0], a[1], a[2], a[3], a[4]);
            case 31: return x.write(a[0]);
            case 32: return x.count(a[0]);
            default: return x.digest();
        }
    }
}
