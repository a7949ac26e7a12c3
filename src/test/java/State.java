import java.util.ArrayList;
import java.util.List;

/** Makes like objects, and reads all that is told of one, to see whether a call has changed something. */
final class State {
    /** Where count() 8 stands in a reading. */
    static final int FINDING = 8;
    static final String FOUR_COINS = "001;012;013;024";
    private static final int[][] ITEMS = {{1, -2, 3}, {300, -4}, {70000, 5, 6, 7}};

    private State() {
    }

    /** Nothing as at first; SHEETS 0 to 2 are bytes, shorts, ints, 3 is LOST; the latest FINDING is a told one. */
    static ThirdFavour make(String text, int heards, int finding) {
        ThirdFavour x = new ThirdFavour();
        x.record(1, 5);
        x.record(9, 9);
        x.scratch(1, 3, 1);
        x.scratch(9, 8, 9);
        int[] settings = {7, 2, 2, 4};
        for (int what = 0; what < 4; what++) {
            x.set(what, settings[what]);
        }
        Check.typeAll(x, text);
        for (int i = 0; i < heards; i++) {
            x.heard(i, i % 3 - 1);
        }
        for (int s = 0; s < 3; s++) {
            x.sheet(s, s, ITEMS[s].length);
            for (int i = 0; i < ITEMS[s].length; i++) {
                x.lay(s, s, i, ITEMS[s][i]);
            }
        }
        find(x, finding);
        return x;
    }

    static void find(ThirdFavour x, int finding) {
        switch (finding) {
            case 1: x.lose(3); break;
            case 2: x.get(0, 0, 99); break;
            case 3: x.get(0, 1, 0); break;
            case 4: x.copy(0, 0, 1, 0, 0); break;
            default: x.sheet(0, 0, -1);
        }
    }

    /** Reads by asking first and by taking away at the end: the object is of no more use. */
    static List<Long> readAll(ThirdFavour x) {
        List<Long> all = new ArrayList<>();
        for (int what = 0; what <= 8; what++) {
            all.add((long) x.count(what));
        }
        all.add((long) x.fault());
        all.add(x.digest());
        for (int coin = 0; coin < x.count(0); coin++) {
            all.add((long) x.coin(coin, 0));
            all.add((long) x.coin(coin, 1));
        }
        for (int s = 0; s < 4; s++) {
            for (int form = 0; form < 3; form++) {
                for (int i = -1; i <= 4; i++) {
                    all.add((long) x.get(s, form, i));
                }
            }
            all.add((long) x.lose(s));
        }
        for (int record = 0; record < 10; record++) {
            all.add((long) x.record(record, 1));
            for (int groove = 0; groove < 9; groove++) {
                all.add((long) x.scratch(record, groove, -1));
            }
        }
        for (int what = 0; what < 4; what++) {
            all.add((long) x.set(what, 1));
        }
        all.add((long) x.forget());
        all.add((long) x.wipe());
        return all;
    }
}
