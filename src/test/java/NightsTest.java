/** Promises 15 to 20: what plays when, by each law. */
public final class NightsTest {
    private static final Check CHECK = new Check("nights");

    public static void main(String[] args) {
        at();
        firstAsked();
        twoCoinsAhead();
        mostAsked();
        latestAsked();
        lateNight();
        life();
        silent();
        pleasedAndBest();
        times();
        first();
        CHECK.end();
    }

    private static ThirdFavour by(int law, String text) {
        ThirdFavour x = Check.with(text);
        x.set(1, law);
        return x;
    }

    private static void servedAre(String name, ThirdFavour x, int[][] rows) {
        for (int c = 0; c < rows.length; c++) {
            for (int what = 0; what < 3; what++) {
                CHECK.due(name + " served(" + c + ", " + what + ")", x.served(c, what), rows[c][what]);
            }
        }
    }

    private static void at() {
        ThirdFavour x = by(0, "051;102");
        int[] due = {-1, -1, -1, -1, -1, 1, 1, 1, -1, -1, 2, 2, 2, -1};
        for (int m = 0; m < due.length; m++) {
            CHECK.due("at(" + m + ")", x.at(m), due[m]);
        }
        CHECK.due("at(199)", x.at(199), -1);
        CHECK.due("at(200)", x.at(200), -2);
        CHECK.due("at(-1)", x.at(-1), -2);
        CHECK.due("served(2, 0)", x.served(2, 0), -2);
        CHECK.due("served(-1, 0)", x.served(-1, 0), -2);
        CHECK.due("served(0, 3)", x.served(0, 3), -2);
        CHECK.due("served(0, -1)", x.served(0, -1), -2);
    }

    private static void firstAsked() {
        ThirdFavour x = by(0, "001;001;012;052");
        x.record(1, 4);
        servedAre("law 0", x, new int[][] {{0, 1, 0}, {4, 1, 4}, {8, 2, 7}, {11, 2, 6}});
    }

    private static void twoCoinsAhead() {
        ThirdFavour x = by(1, "017;028;029;020");
        servedAre("law 1", x, new int[][] {{1, -1, 0}, {2, -1, 0}, {2, 7, 0}, {5, 8, 3}});
        CHECK.due("nothing in minute 1", x.at(1), -1);
        CHECK.due("at once in minute 2", x.at(2), 7);
        CHECK.due("plays, count(4)", x.count(4), 2);
        CHECK.due("the first COIN's is silent", x.night(1, 0), 1);
        ThirdFavour one = by(1, "505");
        servedAre("law 1, one coin", one, new int[][] {{50, -1, 0}});
        CHECK.due("nothing plays", one.night(1, 0), 0);
        CHECK.due("no end", one.night(1, 2), 0);
        CHECK.due("no pleased", one.night(1, 1), 0);
    }

    private static void mostAsked() {
        ThirdFavour x = by(2, "005;014;023;024;023;025");
        servedAre("law 2", x, new int[][] {
            {0, 5, 0}, {6, 4, 5}, {3, 3, 1}, {12, 4, 10}, {9, 3, 7}, {15, 5, 13}});
        ThirdFavour same = by(2, "009;008;000");
        servedAre("law 2, coins of the minute come first", same, new int[][] {{6, 9, 6}, {3, 8, 3}, {0, 0, 0}});
    }

    private static void latestAsked() {
        ThirdFavour x = by(3, "005;006;017;038;039");
        servedAre("law 3", x, new int[][] {{12, 5, 12}, {0, 6, 0}, {9, 7, 8}, {6, 8, 3}, {3, 9, 0}});
    }

    private static void lateNight() {
        ThirdFavour x = by(0, "001;001;001;001;991");
        x.scratch(1, 0, 0);
        x.set(0, 50);
        servedAre("chosen ahead of minute 200", x,
            new int[][] {{0, 1, 0}, {50, 1, 50}, {100, 1, 100}, {150, 1, 150}, {-1, -1, -1}});
        CHECK.due("end at 200", x.night(0, 2), 200);
        CHECK.due("at(199)", x.at(199), 1);
        CHECK.due("pleased", x.night(0, 1), 1);
        CHECK.due("count(4)", x.count(4), 4);
        x.set(0, 49);
        CHECK.due("minute 196", x.served(4, 0), 196);
        CHECK.due("its wait", x.served(4, 2), 97);
        CHECK.due("end", x.night(0, 2), 245);
        ThirdFavour y = by(0, "001;001;001;001;990;991");
        y.scratch(1, 0, 0);
        y.set(0, 50);
        y.record(0, 1);
        y.set(0, 49);
        CHECK.due("chosen in 196", y.served(4, 0), 196);
        CHECK.due("chosen in 197", y.served(5, 0), 197);
        y.record(0, 3);
        CHECK.due("chosen in 199", y.served(5, 0), 199);
        y.record(0, 4);
        CHECK.due("not chosen in 200", y.served(5, 0), -1);
        y.set(2, 4);
        CHECK.due("nor spent", y.served(5, 2), -1);
    }

    private static void life() {
        ThirdFavour x = by(0, "001;001;011;012;201");
        x.set(2, 2);
        servedAre("LIFE 2", x, new int[][] {{0, 1, 0}, {3, 1, 3}, {6, -1, 5}, {6, 2, 5}, {20, -1, 0}});
        CHECK.due("times(1)", x.times(1), 2);
        CHECK.due("end", x.night(0, 2), 9);
        CHECK.due("silent", x.night(0, 0), 0);
        CHECK.due("pleased: only who got a play", x.night(0, 1), 3);
        ThirdFavour y = by(2, "001;001;001;012");
        y.set(2, 1);
        servedAre("law 2 chooses what is broken, too", y, new int[][] {{0, 1, 0}, {3, -1, 3}, {3, -1, 3}, {3, 2, 2}});
    }

    private static void silent() {
        ThirdFavour x = by(0, "101;152;303");
        CHECK.due("silent between the plays", x.night(0, 0), 2 + 12);
        CHECK.due("end", x.night(0, 2), 33);
        CHECK.due("law 3 alike", x.night(3, 0), 14);
        CHECK.due("law 1 from the first COIN's", x.night(1, 0), 20);
        CHECK.due("night(4, 0)", x.night(4, 0), -2);
        CHECK.due("night(-1, 0)", x.night(-1, 0), -2);
        CHECK.due("night(0, 3)", x.night(0, 3), -2);
        CHECK.due("night(0, -1)", x.night(0, -1), -2);
        ThirdFavour none = new ThirdFavour();
        for (int law = 0; law < 4; law++) {
            for (int what = 0; what < 3; what++) {
                CHECK.due("empty night(" + law + ", " + what + ")", none.night(law, what), 0);
            }
        }
    }

    private static void pleasedAndBest() {
        ThirdFavour x = Check.with("001;001;002;002;003");
        x.set(3, 6);
        CHECK.due("law 0: waits 0, 3, 6 of 12", x.night(0, 1), 3);
        CHECK.due("law 1: waits 0, 3, 6", x.night(1, 1), 3);
        CHECK.due("best() of like ones the least", x.best(), 0);
        x.set(3, 0);
        CHECK.due("PATIENCE 0", x.night(0, 1), 1);
        ThirdFavour y = Check.with("001;022;022;042");
        y.record(1, 9);
        y.record(2, 2);
        y.set(3, 0);
        CHECK.due("law 0", y.night(0, 1), 1);
        CHECK.due("law 1", y.night(1, 1), 1);
        CHECK.due("best()", y.best(), 0);
        ThirdFavour z = Check.with("000;021;021;062");
        z.record(0, 7);
        z.record(1, 1);
        z.set(3, 2);
        CHECK.due("law 0: 0, 5, 6, 3", z.night(0, 1), 1);
        CHECK.due("law 1: two spent, 0, 3", z.night(1, 1), 1);
        CHECK.due("law 2: 0, 5, 6, 3", z.night(2, 1), 1);
        CHECK.due("law 3: 0, 11, 10, 1", z.night(3, 1), 2);
        CHECK.due("best() is the fourth", z.best(), 3);
        CHECK.due("best() of none", new ThirdFavour().best(), 0);
    }

    private static void times() {
        ThirdFavour x = by(0, "001;001;002");
        CHECK.due("times(1)", x.times(1), 2);
        CHECK.due("times(2)", x.times(2), 1);
        CHECK.due("times(3)", x.times(3), 0);
        x.set(1, 1);
        CHECK.due("law 1 times(1)", x.times(1), 1);
        CHECK.due("law 1 times(2)", x.times(2), 0);
        CHECK.due("times(10)", x.times(10), -2);
        CHECK.due("times(-1)", x.times(-1), -2);
    }

    private static void first() {
        ThirdFavour x = by(0, "001;002;002;001");
        CHECK.due("LIFE 99: none", x.first(), -1);
        x.set(2, 2);
        CHECK.due("LIFE 2", x.first(), 2);
        x.set(1, 3);
        CHECK.due("LIFE 2, latest: 1, 2, 2, 1", x.first(), 2);
        x.set(2, 1);
        CHECK.due("LIFE 1, latest", x.first(), 1);
        x.set(1, 0);
        x.set(2, 3);
        CHECK.due("LIFE 3", x.first(), -1);
        CHECK.due("no COINS", new ThirdFavour().first(), -1);
    }
}
