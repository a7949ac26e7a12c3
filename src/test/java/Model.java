import java.util.ArrayList;
import java.util.Arrays;
import java.util.List;

/** The document told a second time, minute by minute and without thrift, to hold the program against. */
final class Model {
    static final int NONE = -1, BAD = -2, NOT = -3, FULL = -4;

    /** A coin in a list of coins; chosen and what it played are NONE until a night is told. */
    static final class Asked {
        final int minute;
        final int button;
        int chosen = NONE;
        int plays = NONE;

        Asked(int minute, int button) {
            this.minute = minute;
            this.button = button;
        }
    }

    private final int[] grooves = {3, 3, 3, 3, 3, 3, 3, 3, 3, 3};
    private final Integer[][] scratched = new Integer[10][9];
    private String text = "";
    private final int[] settings = {20, 1, 99, 15};
    private final List<int[]> heardList = new ArrayList<>();
    private final int[][] rows = new int[4][];
    private final int[] forms = new int[4];
    private int lastFinding = 0;

    /** The grooves in the order of a play, the one that comes again at the end; behind the last one: NONE. */
    private List<Integer> path(int record, int waxed) {
        List<Integer> been = new ArrayList<>();
        int here = 0;
        while (here < grooves[record] && !been.contains(here)) {
            been.add(here);
            Integer told = (waxed & 1 << here) != 0 ? null : scratched[record][here];
            here = told == null ? here + 1 : told;
        }
        been.add(here < grooves[record] ? here : NONE);
        return been;
    }

    private boolean isLoop(int record, int waxed) {
        List<Integer> been = path(record, waxed);
        return been.get(been.size() - 1) != NONE;
    }

    int length(int record) {
        return isLoop(record, 0) ? settings[0] : path(record, 0).size() - 1;
    }

    private int grooveAfter(int record, int minute) {
        if (minute >= length(record)) {
            return NONE;
        }
        List<Integer> been = path(record, 0);
        int once = been.size() - 1;
        if (minute < once) {
            return been.get(minute);
        }
        int back = been.indexOf(been.get(once));
        return been.get(back + (minute - back) % (once - back));
    }

    private int waxBits(int record) {
        for (int number = 0; ; number++) {
            for (int bits = 0; bits < 512; bits++) {
                boolean all = Integer.bitCount(bits) == number;
                for (int g = 0; g < 9; g++) {
                    if ((bits & 1 << g) != 0 && (g >= grooves[record] || scratched[record][g] == null)) {
                        all = false;
                    }
                }
                if (all && !isLoop(record, bits)) {
                    return bits;
                }
            }
        }
    }

    int faultOf() {
        for (int end = 1; end <= text.length(); end++) {
            String part = text.substring(0, end);
            if (!part.matches("([0-9]{3};){0,19}([0-9]{0,3}|[0-9]{3};)") || tooEarly(part)) {
                return end - 1;
            }
        }
        return text.isEmpty() || text.length() % 4 == 3 ? NONE : text.length();
    }

    private static boolean tooEarly(String part) {
        String[] coins = part.split(";");
        for (int i = 1; i < coins.length; i++) {
            if (coins[i].length() >= 2 && coins[i].substring(0, 2).compareTo(coins[i - 1].substring(0, 2)) < 0) {
                return true;
            }
        }
        return false;
    }

    List<Asked> coins() {
        List<Asked> coins = new ArrayList<>();
        if (faultOf() == NONE && !text.isEmpty()) {
            for (String coin : text.split(";")) {
                coins.add(new Asked(Integer.parseInt(coin.substring(0, 2)), coin.charAt(2) - '0'));
            }
        }
        return coins;
    }

    /** Marks the coins; answers the records in the order of their plays. */
    private List<Integer> tell(List<Asked> coins, int law) {
        List<Integer> order = new ArrayList<>();
        int free = 0;
        for (int minute = 0; minute < 200; minute++) {
            while (free <= minute) {
                List<Asked> waiting = new ArrayList<>();
                for (Asked a : coins) {
                    if (a.minute <= minute && a.chosen == NONE) {
                        waiting.add(a);
                    }
                }
                if (waiting.isEmpty()) {
                    break;
                }
                Asked one = pick(waiting, law);
                int number = coins.indexOf(one);
                int record = law != 1 ? one.button : number < 2 ? NONE : coins.get(number - 2).button;
                one.chosen = minute;
                if (record != NONE && timesIn(order, record) < settings[2]) {
                    one.plays = record;
                    order.add(record);
                    free = minute + length(record);
                }
            }
        }
        return order;
    }

    private static int timesIn(List<Integer> order, int record) {
        int times = 0;
        for (int r : order) {
            times += r == record ? 1 : 0;
        }
        return times;
    }

    private static Asked pick(List<Asked> waiting, int law) {
        if (law == 3) {
            return waiting.get(waiting.size() - 1);
        }
        if (law < 2) {
            return waiting.get(0);
        }
        int[] votes = new int[10];
        for (Asked a : waiting) {
            votes[a.button]++;
        }
        int most = Arrays.stream(votes).max().getAsInt();
        for (int button = 0; ; button++) {
            if (votes[button] == most) {
                for (Asked a : waiting) {
                    if (a.button == button) {
                        return a;
                    }
                }
            }
        }
    }

    private int playing(List<Asked> told, int minute) {
        for (Asked a : told) {
            if (a.plays != NONE && a.chosen <= minute && minute < a.chosen + length(a.plays)) {
                return a.plays;
            }
        }
        return NONE;
    }

    private List<Asked> night(int law) {
        List<Asked> coins = coins();
        tell(coins, law);
        return coins;
    }

    private int pleased(List<Asked> told) {
        int number = 0;
        for (Asked a : told) {
            number += a.plays != NONE && a.chosen - a.minute <= settings[3] ? 1 : 0;
        }
        return number;
    }

    private int end(List<Asked> told) {
        int end = 0;
        for (Asked a : told) {
            end = a.plays == NONE ? end : Math.max(end, a.chosen + length(a.plays));
        }
        return end;
    }

    private int silent(List<Asked> told) {
        int silent = 0;
        int end = end(told);
        for (int minute = told.isEmpty() ? end : told.get(0).minute; minute < end; minute++) {
            silent += playing(told, minute) == NONE ? 1 : 0;
        }
        return silent;
    }

    private int nightTold(int law, int what) {
        List<Asked> told = night(law);
        return what == 0 ? silent(told) : what == 1 ? pleased(told) : end(told);
    }

    private int bestLaw() {
        int best = 0;
        for (int law = 1; law < 4; law++) {
            if (pleased(night(law)) > pleased(night(best))) {
                best = law;
            }
        }
        return best;
    }

    private int firstWorn() {
        List<Integer> order = tell(coins(), settings[1]);
        for (int i = 1; i <= order.size(); i++) {
            if (timesIn(order.subList(0, i), order.get(i - 1)) == settings[2]) {
                return order.get(i - 1);
            }
        }
        return NONE;
    }

    private boolean playsWith(int minute, int[] more, int record, int hour) {
        List<Asked> coins = coins();
        for (int button : more) {
            coins.add(new Asked(minute, button));
        }
        tell(coins, settings[1]);
        return playing(coins, hour) == record;
    }

    private int askTold(int minute, int record, int hour, int what) {
        List<Asked> coins = coins();
        if (!in(minute, 0, 99) || !in(record, 0, 9) || !in(hour, 0, 199) || !in(what, 0, 2)
                || !coins.isEmpty() && minute < coins.get(coins.size() - 1).minute) {
            return BAD;
        }
        if (playsWith(minute, new int[0], record, hour)) {
            return what == 0 ? 0 : NONE;
        }
        if (coins.size() > 19) {
            return FULL;
        }
        for (int one = 0; one < 10; one++) {
            if (playsWith(minute, new int[] {one}, record, hour)) {
                return new int[] {1, one, NONE}[what];
            }
        }
        if (coins.size() > 18) {
            return FULL;
        }
        for (int pair = 0; pair < 100; pair++) {
            if (playsWith(minute, new int[] {pair / 10, pair % 10}, record, hour)) {
                return new int[] {2, pair / 10, pair % 10}[what];
            }
        }
        return NONE;
    }

    private int stuckTold(int coin, int record) {
        List<Asked> coins = coins();
        if (!in(coin, 0, coins.size() - 1) || !in(record, NONE, 9)) {
            return BAD;
        }
        coins.remove(coin);
        List<Integer> order = tell(coins, settings[1]);
        return record == NONE ? pleased(coins) : timesIn(order, record);
    }

    private int lawBits() {
        int bits = 15;
        for (int law = 0; law < 4; law++) {
            List<Asked> told = night(law);
            for (int[] h : heardList) {
                if (playing(told, h[0]) != h[1]) {
                    bits &= ~(1 << law);
                }
            }
        }
        return bits;
    }

    private long nextTold(int button, int what) {
        if (!in(button, 0, 9) || !in(what, 0, 1)) {
            return Long.MIN_VALUE + 2;
        }
        int above = 1;
        for (Asked a : coins()) {
            above += a.button == button ? 1 : 0;
        }
        int below = 10 + coins().size();
        for (int d = below; d > 1; d--) {
            if (above % d == 0 && below % d == 0) {
                above /= d;
                below /= d;
            }
        }
        return what == 0 ? above : below;
    }

    private int sinceTold(int button) {
        if (!in(button, 0, 9)) {
            return BAD;
        }
        int since = 0;
        for (Asked a : coins()) {
            since = a.button == button ? 0 : since + 1;
        }
        return since;
    }

    private static boolean in(int v, int least, int most) {
        return least <= v && v <= most;
    }

    private int found(int number) {
        lastFinding = number;
        return -10 - number;
    }

    private static int narrow(int form, int v) {
        return form == 0 ? v << 24 >> 24 : form == 1 ? v << 16 >> 16 : v;
    }

    private int item(int s, int form, int i) {
        if (!in(s, 0, 3) || !in(form, 0, 2)) {
            return BAD;
        }
        if (rows[s] == null) {
            return found(1);
        }
        if (forms[s] != form) {
            return found(3);
        }
        return in(i, 0, rows[s].length - 1) ? 0 : found(2);
    }

    private int copyTold(int s, int i, int t, int j, int n) {
        if (!in(s, 0, 3) || !in(t, 0, 3)) {
            return BAD;
        }
        if (rows[s] == null || rows[t] == null) {
            return found(1);
        }
        if (forms[s] != forms[t]) {
            return found(4);
        }
        if (i < 0 || j < 0 || n < 0 || (long) i + n > rows[s].length || (long) j + n > rows[t].length) {
            return found(2);
        }
        int[] old = rows[s].clone();
        for (int k = 0; k < n; k++) {
            rows[t][j + k] = old[i + k];
        }
        return 1;
    }

    private int readTold(int s) {
        if (!in(s, 0, 3)) {
            return BAD;
        }
        if (rows[s] == null) {
            return found(1);
        }
        int number = 0;
        while (number < 10 && number < rows[s].length && in(rows[s][number], 1, 9)) {
            grooves[number] = rows[s][number];
            number++;
        }
        return number;
    }

    private int writeTold(int s) {
        if (!in(s, 0, 3)) {
            return BAD;
        }
        if (rows[s] == null) {
            return found(1);
        }
        List<Asked> told = night(settings[1]);
        int number = 0;
        for (Asked a : told) {
            if (number < rows[s].length) {
                rows[s][number] = narrow(forms[s], a.plays);
                number++;
            }
        }
        return number;
    }

    private int sheetTold(int s, int form, int n) {
        if (!in(s, 0, 3) || !in(form, 0, 2) || n > 60) {
            return BAD;
        }
        if (n < 0) {
            return found(5);
        }
        rows[s] = new int[n];
        forms[s] = form;
        return n;
    }

    private int loseTold(int s) {
        if (!in(s, 0, 3)) {
            return BAD;
        }
        if (rows[s] == null) {
            return found(1);
        }
        int had = rows[s].length;
        rows[s] = null;
        return had;
    }

    private int layTold(int s, int form, int i, int v) {
        int refusal = item(s, form, i);
        if (refusal == 0) {
            rows[s][i] = narrow(form, v);
            return 1;
        }
        return refusal;
    }

    private int setTold(int what, int v) {
        int[] least = {1, 0, 1, 0};
        int[] most = {60, 3, 99, 99};
        if (!in(what, 0, 3) || !in(v, least[what], most[what])) {
            return BAD;
        }
        int was = settings[what];
        settings[what] = v;
        return was;
    }

    private int recordTold(int record, int v) {
        if (!in(record, 0, 9) || !in(v, 1, 9)) {
            return BAD;
        }
        int was = grooves[record];
        grooves[record] = v;
        return was;
    }

    private int scratchTold(int record, int groove, int to) {
        if (!in(record, 0, 9) || !in(groove, 0, 8) || !in(to, NONE, 9)) {
            return BAD;
        }
        Integer was = scratched[record][groove];
        scratched[record][groove] = to == NONE ? null : Integer.valueOf(to);
        return was == null ? NONE : was;
    }

    private int typeTold(int b) {
        if (!in(b, 0, 255)) {
            return BAD;
        }
        if (text.length() == 80) {
            return FULL;
        }
        text += (char) b;
        return text.length();
    }

    private int undoTold() {
        int number = coins().size();
        if (number == 0) {
            return NOT;
        }
        text = number == 1 ? "" : text.substring(0, text.lastIndexOf(';'));
        return number - 1;
    }

    private int heardTold(int minute, int record) {
        if (!in(minute, 0, 199) || !in(record, NONE, 9)) {
            return BAD;
        }
        if (heardList.size() == 8) {
            return FULL;
        }
        heardList.add(new int[] {minute, record});
        return heardList.size();
    }

    private int servedTold(int coin, int what) {
        List<Asked> told = night(settings[1]);
        if (!in(coin, 0, told.size() - 1) || !in(what, 0, 2)) {
            return BAD;
        }
        Asked a = told.get(coin);
        return what == 0 ? a.chosen : what == 1 ? a.plays : a.chosen == NONE ? NONE : a.chosen - a.minute;
    }

    private int coinTold(int coin, int what) {
        List<Asked> coins = coins();
        if (!in(coin, 0, coins.size() - 1) || !in(what, 0, 1)) {
            return BAD;
        }
        return what == 0 ? coins.get(coin).minute : coins.get(coin).button;
    }

    private int countTold(int what) {
        int scratches = 0;
        for (Integer[] row : scratched) {
            for (Integer to : row) {
                scratches += to == null ? 0 : 1;
            }
        }
        switch (what) {
            case 0: return coins().size();
            case 1: return text.length();
            case 2: return Arrays.stream(grooves).sum();
            case 3: return scratches;
            case 4: return tell(coins(), settings[1]).size();
            case 5: return heardList.size();
            case 6: return settings[1];
            case 7: return settings[0];
            case 8: return lastFinding;
            default: return BAD;
        }
    }

    private long digestTold() {
        long h = 17;
        for (int what = 0; what <= 7; what++) {
            h = 31 * h + countTold(what);
        }
        h = 31 * h + faultOf();
        for (int r = 0; r < 10; r++) {
            int bits = waxBits(r);
            long[] row = {length(r), isLoop(r, 0) ? 1 : 0, grooveAfter(r, 4), Integer.bitCount(bits), bits,
                timesIn(tell(coins(), settings[1]), r), nextTold(r, 0), nextTold(r, 1), sinceTold(r)};
            h = mix(h, row);
        }
        for (int c = 0; c < coins().size(); c++) {
            h = mix(h, servedTold(c, 0), servedTold(c, 1), servedTold(c, 2));
        }
        for (int law = 0; law < 4; law++) {
            h = mix(h, nightTold(law, 0), nightTold(law, 1), nightTold(law, 2));
        }
        List<Asked> told = night(settings[1]);
        return mix(h, playing(told, 5), playing(told, 30), bestLaw(), firstWorn(), askTold(99, 1, 110, 0),
            askTold(99, 1, 110, 1), askTold(99, 1, 110, 2), stuckTold(0, NONE), lawBits());
    }

    private static long mix(long begun, long... all) {
        long h = begun;
        for (long v : all) {
            h = 31 * h + v;
        }
        return h;
    }

    private int wipeTold() {
        int had = text.length();
        text = "";
        return had;
    }

    private int forgetTold() {
        int had = heardList.size();
        heardList.clear();
        return had;
    }

    /** The answer of a call that is told by its place in the document's face, and its arguments. */
    long answer(int call, int[] a) {
        boolean record = in(a[0], 0, 9);
        switch (call) {
            case 0: return recordTold(a[0], a[1]);
            case 1: return scratchTold(a[0], a[1], a[2]);
            case 2: return typeTold(a[0]);
            case 3: return wipeTold();
            case 4: return faultOf();
            case 5: return undoTold();
            case 6: return setTold(a[0], a[1]);
            case 7: return readTold(a[0]);
            case 8: return record ? length(a[0]) : BAD;
            case 9: return record && in(a[1], 0, 59) ? grooveAfter(a[0], a[1]) : BAD;
            case 10: return !record ? BAD : isLoop(a[0], 0) ? 1 : 0;
            case 11: return !record || !in(a[1], 0, 1) ? BAD
                : a[1] == 0 ? Integer.bitCount(waxBits(a[0])) : waxBits(a[0]);
            case 12: return coinTold(a[0], a[1]);
            case 13: return in(a[0], 0, 199) ? playing(night(settings[1]), a[0]) : BAD;
            case 14: return servedTold(a[0], a[1]);
            case 15: return in(a[0], 0, 3) && in(a[1], 0, 2) ? nightTold(a[0], a[1]) : BAD;
            case 16: return bestLaw();
            case 17: return record ? timesIn(tell(coins(), settings[1]), a[0]) : BAD;
            case 18: return firstWorn();
            case 19: return askTold(a[0], a[1], a[2], a[3]);
            case 20: return stuckTold(a[0], a[1]);
            case 21: return heardTold(a[0], a[1]);
            case 22: return forgetTold();
            case 23: return lawBits();
            case 24: return nextTold(a[0], a[1]);
            case 25: return sinceTold(a[0]);
            case 26: return sheetTold(a[0], a[1], a[2]);
            case 27: return loseTold(a[0]);
            case 28: return layTold(a[0], a[1], a[2], a[3]);
            case 29: return item(a[0], a[1], a[2]) == 0 ? rows[a[0]][a[2]] : Integer.MIN_VALUE;
            case 30: return copyTold(a[0], a[1], a[2], a[3], a[4]);
            case 31: return writeTold(a[0]);
            case 32: return countTold(a[0]);
            default: return digestTold();
        }
    }
}
