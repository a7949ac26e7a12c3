/** Each sentence of the document that names a boundary case of nights (promises 15 to 20). */
public final class NightEdgesTest {
    private static final Check CHECK = new Check("edges of nights");
    /** Three plays of KICK 60, two of 9 minutes, one of LONG of RECORD 3; then RECORD 4. */
    private static final String TO_THE_END = "001;001;001;002;002;003;004";

    public static void main(String[] args) {
        freeFromMinuteZeroOn();
        coinsOfThatMinuteComeFirst();
        theFirstAsked();
        twoCoinsAhead();
        nothingForCoinsZeroAndOne();
        choosesAgainAtOnce();
        theButtonOfWhichMostWait();
        theLatestAsked();
        twentyByEachLaw();
        minuteTwoHundredOrLater();
        spentInMinuteTwoHundredOrLater();
        behindMinuteTwoHundred();
        lifeLeastAndGreatest();
        lifeByEachLaw();
        silentFromTheFirstCoin();
        pleasedWithinPatience();
        bestOfLikeOnesTheLeast();
        timesOfEach();
        firstOfLife();
        firstAndLastMinute();
        CHECK.end();
    }

    private static ThirdFavour by(int law, String text) {
        ThirdFavour x = Check.with(text);
        x.set(1, law);
        return x;
    }

    private static void servedIs(String name, ThirdFavour x, int coin, int when, int record, int waited) {
        CHECK.due(name + " served(" + coin + ", 0)", x.served(coin, 0), when);
        CHECK.due(name + " served(" + coin + ", 1)", x.served(coin, 1), record);
        CHECK.due(name + " served(" + coin + ", 2)", x.served(coin, 2), waited);
    }

    /** "The machine is free from minute 0 on, and as soon as a play is over". */
    private static void freeFromMinuteZeroOn() {
        ThirdFavour x = by(0, "007;008;069;960");
        servedIs("in minute 0", x, 0, 0, 7, 0);
        servedIs("as soon as it is over", x, 1, 3, 8, 3);
        servedIs("in the minute in which it is over", x, 2, 6, 9, 0);
        servedIs("when it was free long ago", x, 3, 96, 0, 0);
        int[] due = {7, 7, 7, 8, 8, 8, 9, 9, 9, -1};
        for (int m = 0; m < due.length; m++) {
            CHECK.due("at(" + m + ")", x.at(m), due[m]);
        }
    }

    /** "in a minute COINS of that minute come first, then it chooses": in that in which a play is over, too. */
    private static void coinsOfThatMinuteComeFirst() {
        ThirdFavour latest = by(3, "007;008;039;049");
        servedIs("latest", latest, 1, 0, 8, 0);
        servedIs("latest", latest, 2, 3, 9, 0);
        servedIs("latest", latest, 3, 6, 9, 2);
        servedIs("latest", latest, 0, 9, 7, 9);
        ThirdFavour most = by(2, "009;008;007;038;049");
        servedIs("most", most, 2, 0, 7, 0);
        servedIs("most", most, 1, 3, 8, 3);
        servedIs("most", most, 0, 6, 9, 6);
        servedIs("most", most, 3, 9, 8, 6);
        servedIs("most", most, 4, 12, 9, 8);
    }

    /** "0 the first asked": of one minute, in their order. */
    private static void theFirstAsked() {
        ThirdFavour x = by(0, "509;501;505");
        servedIs("first", x, 0, 50, 9, 0);
        servedIs("first", x, 1, 53, 1, 3);
        servedIs("first", x, 2, 56, 5, 6);
        CHECK.due("at(49)", x.at(49), -1);
        CHECK.due("at(50)", x.at(50), 9);
        CHECK.due("at(58)", x.at(58), 5);
        CHECK.due("at(59)", x.at(59), -1);
    }

    /** "what was asked two COINS ahead of the first that waits", also when that has been played long ago. */
    private static void twoCoinsAhead() {
        ThirdFavour x = by(1, "007;108;209;300;301");
        servedIs("ahead", x, 2, 20, 7, 0);
        servedIs("ahead", x, 3, 30, 8, 0);
        servedIs("ahead", x, 4, 33, 9, 3);
    }

    /** "(nothing, and that COIN is spent, for COINS 0 and 1)". */
    private static void nothingForCoinsZeroAndOne() {
        ThirdFavour none = by(1, "");
        CHECK.due("no COINS", none.count(4), 0);
        ThirdFavour one = by(1, "990");
        servedIs("one", one, 0, 99, -1, 0);
        CHECK.due("one: plays", one.count(4), 0);
        CHECK.due("one: at(99)", one.at(99), -1);
        ThirdFavour two = by(1, "000;990");
        servedIs("two", two, 0, 0, -1, 0);
        servedIs("two", two, 1, 99, -1, 0);
        for (int what = 0; what < 3; what++) {
            CHECK.due("two: night(1, " + what + ")", two.night(1, what), 0);
        }
        ThirdFavour three = by(1, "000;990;991");
        servedIs("three", three, 1, 99, -1, 0);
        servedIs("three", three, 2, 99, 0, 0);
        CHECK.due("three: plays", three.count(4), 1);
    }

    /** "by a COIN that is spent for nothing it chooses again at once". */
    private static void choosesAgainAtOnce() {
        ThirdFavour x = by(1, "007;008;009");
        servedIs("two spent", x, 0, 0, -1, 0);
        servedIs("two spent", x, 1, 0, -1, 0);
        servedIs("in the same minute", x, 2, 0, 7, 0);
        ThirdFavour y = by(0, "007;007;007;008");
        y.set(2, 1);
        servedIs("LIFE 1", y, 1, 3, -1, 3);
        servedIs("LIFE 1", y, 2, 3, -1, 3);
        servedIs("LIFE 1, in the same minute", y, 3, 3, 8, 3);
        CHECK.due("at(3)", y.at(3), 8);
    }

    /** "2 the BUTTON of which most COINS wait (of like ones the least; its first COIN)". */
    private static void theButtonOfWhichMostWait() {
        ThirdFavour x = by(2, "009;000;009;000");
        servedIs("two of each: the least", x, 1, 0, 0, 0);
        servedIs("two 9, one 0: the most, its first", x, 0, 3, 9, 3);
        servedIs("one of each: the least", x, 3, 6, 0, 6);
        servedIs("the last", x, 2, 9, 9, 9);
        ThirdFavour y = by(2, "005;035;036;046");
        servedIs("spent ones and later ones do not wait", y, 0, 0, 5, 0);
        servedIs("one of each in minute 3", y, 1, 3, 5, 0);
        servedIs("two 6", y, 2, 6, 6, 3);
        servedIs("the last", y, 3, 9, 6, 5);
    }

    /** "3 the latest asked": of one minute, too. */
    private static void theLatestAsked() {
        ThirdFavour x = by(3, "990;991;992");
        servedIs("latest", x, 2, 99, 2, 0);
        servedIs("latest", x, 1, 102, 1, 3);
        servedIs("latest", x, 0, 105, 0, 6);
    }

    /** Twenty COINS in minute 0, of RECORDS 9 down to 0 and again. */
    private static void twentyByEachLaw() {
        StringBuilder text = new StringBuilder("009");
        for (int i = 1; i < 20; i++) {
            text.append(";00").append(9 - i % 10);
        }
        for (int coin = 0; coin < 20; coin++) {
            int button = 9 - coin % 10;
            ThirdFavour x = by(0, text.toString());
            servedIs("law 0", x, coin, 3 * coin, button, 3 * coin);
            x.set(1, 1);
            int when = Math.max(3 * (coin - 2), 0);
            servedIs("law 1", x, coin, when, coin < 2 ? -1 : 9 - (coin - 2) % 10, when);
            x.set(1, 2);
            when = coin < 10 ? 3 * (9 - coin) : 3 * (10 + 19 - coin);
            servedIs("law 2", x, coin, when, button, when);
            x.set(1, 3);
            servedIs("law 3", x, coin, 3 * (19 - coin), button, 3 * (19 - coin));
        }
        ThirdFavour x = by(0, text.toString());
        int[] ends = {60, 54, 60, 60};
        int[] plays = {20, 18, 20, 20};
        for (int law = 0; law < 4; law++) {
            x.set(1, law);
            CHECK.due("plays by law " + law, x.count(4), plays[law]);
            CHECK.due("end by law " + law, x.night(law, 2), ends[law]);
            CHECK.due("silent by law " + law, x.night(law, 0), 0);
            CHECK.due("pleased by law " + law, x.night(law, 1), 6);
            CHECK.due("times(9) by law " + law, x.times(9), 2);
            CHECK.due("times(0) by law " + law, x.times(0), law == 1 ? 1 : 2);
        }
    }

    private static ThirdFavour toTheEnd(int law, String text, int longOfThree) {
        ThirdFavour x = by(law, text);
        x.set(0, 60);
        x.scratch(1, 0, 0);
        x.record(2, 9);
        x.record(3, longOfThree);
        x.record(4, 9);
        return x;
    }

    /** "What would be chosen in minute 200 or later is not": minute 199 is the last. */
    private static void minuteTwoHundredOrLater() {
        String[] texts = {TO_THE_END, TO_THE_END + ";000;000", TO_THE_END, "004;003;002;002;001;001;001"};
        int[] last = {6, 8, 6, 0};
        for (int law = 0; law < 4; law++) {
            String name = "by law " + law;
            ThirdFavour x = toTheEnd(law, texts[law], 1);
            servedIs(name + " in minute 199", x, last[law], 199, 4, 199);
            CHECK.due(name + " at(198)", x.at(198), 3);
            CHECK.due(name + " at(199)", x.at(199), 4);
            CHECK.due(name + " end", x.night(law, 2), 208);
            CHECK.due(name + " plays", x.count(4), 7);
            CHECK.due(name + " times(4)", x.times(4), 1);
            ThirdFavour y = toTheEnd(law, texts[law], 2);
            servedIs(name + " in minute 200", y, last[law], -1, -1, -1);
            CHECK.due(name + " at(199)", y.at(199), 3);
            CHECK.due(name + " end", y.night(law, 2), 200);
            CHECK.due(name + " silent", y.night(law, 0), 0);
            CHECK.due(name + " plays", y.count(4), 6);
            CHECK.due(name + " times(4)", y.times(4), 0);
            y.record(3, 9);
            servedIs(name + " in minute 207", y, last[law], -1, -1, -1);
        }
    }

    /** A COIN that would be spent for nothing is chosen, or not, all the same. */
    private static void spentInMinuteTwoHundredOrLater() {
        String text = "003;003;003;001;001;001;002;005;003";
        for (int longOfFive = 6; longOfFive <= 9; longOfFive++) {
            ThirdFavour x = toTheEnd(0, text, 1);
            x.record(5, longOfFive);
            x.set(2, 3);
            int when = 192 + longOfFive;
            servedIs("would be spent in " + when, x, 8, when < 200 ? when : -1, -1, when < 200 ? when : -1);
            CHECK.due("the one ahead plays", x.served(7, 0), 192);
            CHECK.due("plays", x.count(4), 8);
        }
    }

    /** A play that was chosen ahead of it goes on behind minute 199: its end and SILENT are told as far. */
    private static void behindMinuteTwoHundred() {
        ThirdFavour x = by(0, "000;990;990;990");
        x.scratch(0, 0, 0);
        x.set(0, 60);
        servedIs("in minute 159", x, 2, 159, 0, 60);
        servedIs("in minute 219", x, 3, -1, -1, -1);
        CHECK.due("end", x.night(0, 2), 219);
        CHECK.due("silent from 60 to 98", x.night(0, 0), 39);
        CHECK.due("at(199)", x.at(199), 0);
        CHECK.due("at(200)", x.at(200), -2);
        ThirdFavour y = toTheEnd(0, TO_THE_END.replace("004", "001"), 1);
        CHECK.due("KICK 60 in minute 199", y.night(0, 2), 259);
    }

    /** "LIFE (1 to 99; 99 at first): a RECORD that was played so often breaks". */
    private static void lifeLeastAndGreatest() {
        String twenty = "005" + ";005".repeat(19);
        for (int life : new int[] {1, 2, 18, 19, 20, 99}) {
            ThirdFavour x = by(0, twenty);
            x.record(5, 1);
            x.set(2, life);
            int plays = Math.min(life, 20);
            CHECK.due("plays, LIFE " + life, x.count(4), plays);
            CHECK.due("times(5), LIFE " + life, x.times(5), plays);
            CHECK.due("end, LIFE " + life, x.night(0, 2), plays);
            servedIs("the last that plays, LIFE " + life, x, plays - 1, plays - 1, 5, plays - 1);
            if (life < 20) {
                servedIs("the first that does not, LIFE " + life, x, life, life, -1, life);
                servedIs("the last, LIFE " + life, x, 19, life, -1, life);
            }
            CHECK.due("first(), LIFE " + life, x.first(), life <= 20 ? 5 : -1);
        }
    }

    /** By LAW 1 it is the RECORD that would be played that counts, not the BUTTON of the COIN. */
    private static void lifeByEachLaw() {
        ThirdFavour x = by(1, "005;005;006;006;007");
        x.set(2, 1);
        servedIs("law 1", x, 2, 0, 5, 0);
        servedIs("law 1, 5 again", x, 3, 3, -1, 3);
        servedIs("law 1, then 6", x, 4, 3, 6, 3);
        ThirdFavour y = by(3, "005;005;006;016");
        y.set(2, 1);
        servedIs("law 3", y, 2, 0, 6, 0);
        servedIs("law 3, 6 again", y, 3, 3, -1, 2);
        servedIs("law 3, then 5", y, 1, 3, 5, 3);
        servedIs("law 3, 5 again", y, 0, 6, -1, 6);
        CHECK.due("a spent one is no end of a play", y.night(3, 2), 6);
        CHECK.due("a spent one is no play", y.count(4), 2);
    }

    private static void nightIs(String text, int law, int silent, int pleased, int end) {
        ThirdFavour x = Check.with(text);
        int[] due = {silent, pleased, end};
        for (int what = 0; what < 3; what++) {
            CHECK.due("night(" + law + ", " + what + ") of '" + text + "'", x.night(law, what), due[what]);
        }
    }

    /** "minutes from the first COIN's to the end of the last play in which nothing plays"; "0 without". */
    private static void silentFromTheFirstCoin() {
        for (int law = 0; law < 4; law++) {
            nightIs("", law, 0, 0, 0);
        }
        nightIs("005", 0, 0, 1, 3);
        nightIs("990", 0, 0, 1, 102);
        nightIs("990", 1, 0, 0, 0);
        nightIs("500;990", 1, 0, 0, 0);
        nightIs("005;035", 0, 0, 2, 6);
        nightIs("005;045", 0, 1, 2, 7);
        nightIs("105;990", 0, 86, 2, 102);
        nightIs("105;305;990", 1, 89, 1, 102);
        nightIs("990;991;992", 1, 0, 1, 102);
        ThirdFavour x = by(0, "005;505");
        x.set(2, 1);
        CHECK.due("nothing is silent behind the last play", x.night(0, 0), 0);
        CHECK.due("the last play is over in 3", x.night(0, 2), 3);
        x = by(0, "005;505;906");
        x.set(2, 1);
        CHECK.due("silent from 3 to 89", x.night(0, 0), 87);
    }

    /** "COINS with a play that was chosen within PATIENCE (0 to 99 ..) minutes". */
    private static void pleasedWithinPatience() {
        ThirdFavour x = by(0, "000;000;000;000;000");
        x.scratch(0, 0, 0);
        x.set(0, 33);
        int[][] due = {{0, 1}, {32, 1}, {33, 2}, {34, 2}, {65, 2}, {66, 3}, {98, 3}, {99, 4}};
        for (int[] d : due) {
            x.set(3, d[0]);
            CHECK.due("waits of 0, 33, 66, 99, 132, PATIENCE " + d[0], x.night(0, 1), d[1]);
        }
        x.set(0, 50);
        CHECK.due("waits of 0, 50, 100, 150, PATIENCE 99", x.night(0, 1), 2);
        ThirdFavour y = by(0, "000;000");
        y.set(2, 1);
        y.set(3, 99);
        CHECK.due("a COIN that is spent is not pleased", y.night(0, 1), 1);
        CHECK.due("nor are COINS 0 and 1 by law 1", y.night(1, 1), 0);
        ThirdFavour z = by(0, "000;000");
        CHECK.due("PATIENCE is 15 at first", z.set(3, 2), 15);
        CHECK.due("a wait of 3, PATIENCE 2", z.night(0, 1), 1);
        z.set(3, 3);
        CHECK.due("a wait of 3, PATIENCE 3", z.night(0, 1), 2);
        z.record(0, 9);
        z.set(3, 15);
        CHECK.due("a wait of 9, PATIENCE 15", z.night(0, 1), 2);
    }

    /** "the LAW by which most COINS are PLEASED, of like ones the least". */
    private static void bestOfLikeOnesTheLeast() {
        CHECK.due("best() of no COINS", new ThirdFavour().best(), 0);
        CHECK.due("best() of one", Check.with("005").best(), 0);
        ThirdFavour x = Check.with("009;000;000;000");
        x.record(9, 9);
        x.record(0, 1);
        x.set(3, 2);
        int[] pleased = {1, 1, 3, 3};
        for (int law = 0; law < 4; law++) {
            CHECK.due("pleased by law " + law, x.night(law, 1), pleased[law]);
            x.set(1, law);
            CHECK.due("best(), whatever the LAW", x.best(), 2);
        }
        ThirdFavour y = Check.with("007;008;019;010");
        y.set(3, 0);
        int[] ofFour = {1, 1, 1, 1};
        for (int law = 0; law < 4; law++) {
            CHECK.due("pleased by law " + law + ", PATIENCE 0", y.night(law, 1), ofFour[law]);
        }
        CHECK.due("all alike", y.best(), 0);
    }

    /** "TIMES a RECORD was played", by the LAW as it is: RECORDS 0 to 9. */
    private static void timesOfEach() {
        ThirdFavour x = by(0, "000;000;009;009;009;005");
        int[] first = {2, 0, 0, 0, 0, 1, 0, 0, 0, 3};
        int[] ahead = {2, 0, 0, 0, 0, 0, 0, 0, 0, 2};
        for (int r = 0; r < 10; r++) {
            x.set(1, 0);
            CHECK.due("law 0 times(" + r + ")", x.times(r), first[r]);
            x.set(1, 1);
            CHECK.due("law 1 times(" + r + ")", x.times(r), ahead[r]);
        }
    }

    /** "the RECORD of which LIFE plays are chosen first ..; NONE". */
    private static void firstOfLife() {
        ThirdFavour x = by(0, "001;002;003;002;001");
        CHECK.due("LIFE 99", x.first(), -1);
        x.set(2, 3);
        CHECK.due("LIFE 3: none is played so often", x.first(), -1);
        x.set(2, 2);
        CHECK.due("LIFE 2: 2 is the first", x.first(), 2);
        x.set(2, 1);
        CHECK.due("LIFE 1: the first that plays", x.first(), 1);
        x.set(1, 3);
        CHECK.due("LIFE 1, latest", x.first(), 1);
        x.set(1, 1);
        CHECK.due("LIFE 1, two ahead", x.first(), 1);
        CHECK.due("LIFE 1, one COIN by law 1", one(), -1);
        CHECK.due("no COINS", by(0, "").first(), -1);
        ThirdFavour late = toTheEnd(0, TO_THE_END.replace("004", "003"), 1);
        late.set(2, 3);
        CHECK.due("LIFE 3: 1 is played thrice", late.first(), 1);
        ThirdFavour zero = by(0, "000");
        zero.set(2, 1);
        CHECK.due("RECORD 0", zero.first(), 0);
    }

    private static int one() {
        ThirdFavour x = by(1, "005");
        x.set(2, 1);
        return x.first();
    }

    /** "what plays in a minute (0 to 199)". */
    private static void firstAndLastMinute() {
        ThirdFavour x = by(0, "000");
        x.record(0, 1);
        CHECK.due("at(0)", x.at(0), 0);
        CHECK.due("at(1)", x.at(1), -1);
        CHECK.due("at(199)", x.at(199), -1);
        CHECK.due("at(-1)", x.at(-1), -2);
        CHECK.due("at(200)", x.at(200), -2);
        ThirdFavour y = by(0, "001;001;001;001;000");
        y.scratch(1, 0, 0);
        y.set(0, 50);
        CHECK.due("at(199)", y.at(199), 1);
        y.set(0, 49);
        CHECK.due("at(195)", y.at(195), 1);
        CHECK.due("at(196)", y.at(196), 0);
        CHECK.due("at(198)", y.at(198), 0);
        CHECK.due("at(199)", y.at(199), -1);
    }
}
