/** Promises 34 and 35: counts, and the digest as the sum of all answers. */
public final class CountDigestTest {
    private static final Check CHECK = new Check("counts and digests");

    public static void main(String[] args) {
        count();
        digestOfNew();
        digests();
        digestsAtTheMinute();
        digestsOfTheFull();
        CHECK.end();
    }

    private static void count() {
        ThirdFavour x = Check.with("001;001;001");
        x.record(4, 8);
        x.scratch(4, 2, 3);
        x.scratch(5, 8, 9);
        x.heard(0, 0);
        x.set(1, 0);
        x.set(0, 33);
        x.set(2, 2);
        x.lose(0);
        int[] due = {3, 11, 35, 2, 2, 1, 0, 33, 1};
        for (int what = 0; what < due.length; what++) {
            CHECK.due("count(" + what + ")", x.count(what), due[what]);
        }
        x.set(1, 1);
        CHECK.due("plays by law 1", x.count(4), 1);
        x.scratch(0, 0, 1);
        CHECK.due("the first RECORD'S first groove counts", x.count(3), 3);
        x.scratch(9, 8, 1);
        CHECK.due("the last RECORD'S last groove counts", x.count(3), 4);
        CHECK.due("count(9)", x.count(9), -2);
        CHECK.due("count(-1)", x.count(-1), -2);
        x.type(';');
        CHECK.due("COINS with a FAULT", x.count(0), 0);
        CHECK.due("bytes with a FAULT", x.count(1), 12);
        CHECK.due("plays with a FAULT", x.count(4), 0);
    }

    /** Told from the document alone: the answers of a new object. */
    private static void digestOfNew() {
        long h = 17;
        for (int v : new int[] {0, 0, 30, 0, 0, 0, 1, 20, -1}) {
            h = 31 * h + v;
        }
        for (int r = 0; r < 10; r++) {
            for (int v : new int[] {3, 0, -1, 0, 0, 0, 1, 10, 0}) {
                h = 31 * h + v;
            }
        }
        for (int i = 0; i < 12; i++) {
            h = 31 * h;
        }
        for (int v : new int[] {-1, -1, 0, -1, -1, -1, -1, -2, 15}) {
            h = 31 * h + v;
        }
        CHECK.due("digest() of a new one", new ThirdFavour().digest(), h);
    }

    private static long asTold(ThirdFavour x) {
        long h = 17;
        for (int what = 0; what <= 7; what++) {
            h = 31 * h + x.count(what);
        }
        h = 31 * h + x.fault();
        for (int r = 0; r < 10; r++) {
            long[] row = {x.plays(r), x.loops(r), x.groove(r, 4), x.wax(r, 0), x.wax(r, 1), x.times(r),
                x.next(r, 0), x.next(r, 1), x.since(r)};
            for (long v : row) {
                h = 31 * h + v;
            }
        }
        int coins = x.count(0);
        for (int c = 0; c < coins; c++) {
            h = 31 * (31 * (31 * h + x.served(c, 0)) + x.served(c, 1)) + x.served(c, 2);
        }
        for (int law = 0; law < 4; law++) {
            h = 31 * (31 * (31 * h + x.night(law, 0)) + x.night(law, 1)) + x.night(law, 2);
        }
        long[] rest = {x.at(5), x.at(30), x.best(), x.first(), x.ask(99, 1, 110, 0), x.ask(99, 1, 110, 1),
            x.ask(99, 1, 110, 2), x.stuck(0, -1), x.laws()};
        for (long v : rest) {
            h = 31 * h + v;
        }
        return h;
    }

    /** Plays that begin or end in just the minutes that the digest tells. */
    private static void digestsAtTheMinute() {
        for (String text : new String[] {"032;283", "052;303", "042;293"}) {
            ThirdFavour x = Check.with(text);
            x.set(1, 0);
            CHECK.due("digest() of '" + text + "'", x.digest(), asTold(x));
        }
        for (int kick = 10; kick <= 13; kick++) {
            ThirdFavour x = new ThirdFavour();
            x.set(1, 0);
            x.set(0, kick);
            x.scratch(0, 0, 0);
            x.record(1, 1);
            CHECK.due("digest(), first 1, KICK " + kick, x.digest(), asTold(x));
            x.scratch(1, 0, 0);
            CHECK.due("digest(), looping 1, KICK " + kick, x.digest(), asTold(x));
        }
    }

    /** All RECORDS LONG and SCRATCHED all over, twenty COINS, eight HEARD: what is refused goes in as it is told. */
    private static void digestsOfTheFull() {
        StringBuilder text = new StringBuilder("009");
        for (int i = 1; i < 20; i++) {
            text.append(";").append(i / 10 * 9).append(i % 10).append(i * 3 % 10);
        }
        for (int law = 0; law < 4; law++) {
            ThirdFavour x = Check.with(text.toString());
            for (int r = 0; r < 10; r++) {
                x.record(r, 9);
                for (int g = 0; g < 9; g++) {
                    x.scratch(r, g, (g * 5 + r) % 10);
                }
            }
            for (int i = 0; i < 8; i++) {
                x.heard(i, -1);
            }
            x.set(0, 60);
            x.set(1, law);
            x.set(2, 1);
            x.set(3, 0);
            CHECK.due("FULL in it by " + law, x.ask(99, 1, 110, 0) == -4 || x.ask(99, 1, 110, 0) == 0 ? 1 : 0, 1);
            CHECK.due("digest() of the full by " + law, x.digest(), asTold(x));
            x.type(';');
            CHECK.due("BAD in it", x.stuck(0, -1), -2);
            CHECK.due("digest() of the full with a FAULT by " + law, x.digest(), asTold(x));
        }
    }

    private static void digests() {
        StringBuilder nineteen = new StringBuilder("001");
        for (int i = 1; i < 19; i++) {
            nineteen.append(";").append(i / 10).append(i % 10).append(i * 7 % 10);
        }
        String[] texts = {"", "001", "001;", "001;002;013;241;551", "987;992;993", nineteen.toString(),
            nineteen + ";993", nineteen + ";9931"};
        for (String text : texts) {
            for (int law = 0; law < 4; law++) {
                ThirdFavour x = Check.with(text);
                x.set(1, law);
                x.set(2, 2);
                x.set(3, 5);
                x.record(1, 9);
                x.scratch(1, 8, 0);
                x.scratch(2, 1, 1);
                x.heard(0, 1);
                long told = asTold(x);
                CHECK.due("digest() of '" + text + "' by " + law, x.digest(), told);
                CHECK.due("again", x.digest(), told);
                x.lose(0);
                CHECK.due("a finding does not matter", x.digest(), told);
            }
        }
    }
}
