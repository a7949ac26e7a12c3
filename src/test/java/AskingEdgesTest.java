/** Each sentence of the document that names a boundary case of asking and of what was heard (promises 21 to 27). */
public final class AskingEdgesTest {
    private static final Check CHECK = new Check("edges of asking");

    public static void main(String[] args) {
        noneMore();
        oneMore();
        twoMore();
        theLeastRow();
        theGreatestRow();
        thatOfTheLastCoinOrLater();
        hourZeroAndTheLast();
        itTakesMoreOrCannotBe();
        moreThanTwenty();
        moreByTwoAhead();
        moreOfABrokenRecord();
        stuckOneOfOne();
        stuckOneOfTwenty();
        stuckLeavesTheMinutes();
        stuckTwoAhead();
        eightHeard();
        lawsOfNothingHeard();
        lawsOfTheLastMinute();
        chanceOfNoneAndOfTwenty();
        sinceOfNoneAndOfTwenty();
        CHECK.end();
    }

    private static ThirdFavour by(int law, String text) {
        ThirdFavour x = Check.with(text);
        x.set(1, law);
        return x;
    }

    private static void rowIs(ThirdFavour x, int minute, int record, int hour, int... row) {
        for (int what = 0; what < 3; what++) {
            CHECK.due("ask(" + minute + ", " + record + ", " + hour + ", " + what + ")",
                x.ask(minute, record, hour, what), row[what]);
        }
    }

    private static String coins(int number, String coin) {
        StringBuilder text = new StringBuilder();
        for (int i = 0; i < number; i++) {
            text.append(i == 0 ? "" : ";").append(coin);
        }
        return text.toString();
    }

    /** "the fewest COINS more (0 to 2)": 0 where it plays as it is, whatever the minute they would be in. */
    private static void noneMore() {
        ThirdFavour x = by(0, "505");
        rowIs(x, 50, 5, 50, 0, -1, -1);
        rowIs(x, 50, 5, 52, 0, -1, -1);
        rowIs(x, 99, 5, 51, 0, -1, -1);
        rowIs(x, 50, 5, 53, 1, 5, -1);
        rowIs(x, 50, 5, 49, -1, -1, -1);
    }

    private static void oneMore() {
        ThirdFavour x = by(0, "");
        for (int record = 0; record <= 9; record++) {
            rowIs(x, 0, record, 0, 1, record, -1);
            rowIs(x, 99, record, 101, 1, record, -1);
        }
        rowIs(x, 99, 9, 98, -1, -1, -1);
    }

    private static void twoMore() {
        ThirdFavour x = by(0, "");
        rowIs(x, 0, 9, 3, 2, 0, 9);
        rowIs(x, 0, 9, 5, 2, 0, 9);
        rowIs(x, 0, 9, 6, -1, -1, -1);
        rowIs(x, 0, 0, 5, 2, 0, 0);
        ThirdFavour y = by(3, "");
        rowIs(y, 0, 9, 3, 2, 9, 0);
        rowIs(y, 0, 0, 3, 2, 0, 0);
    }

    /** "of like numbers the least row": by the first BUTTON, then by the second. */
    private static void theLeastRow() {
        ThirdFavour x = by(0, "");
        x.record(0, 1);
        x.record(1, 2);
        rowIs(x, 0, 9, 2, 1, 9, -1);
        rowIs(x, 0, 9, 3, 2, 0, 9);
        rowIs(x, 0, 9, 4, 2, 1, 9);
        rowIs(x, 0, 9, 5, 2, 2, 9);
        ThirdFavour y = by(2, "007;007");
        rowIs(y, 0, 7, 6, 1, 0, -1);
        rowIs(y, 0, 3, 3, 1, 3, -1);
        rowIs(y, 0, 8, 3, 2, 8, 8);
        rowIs(y, 0, 8, 6, 1, 8, -1);
        rowIs(y, 0, 8, 9, 2, 0, 8);
        ThirdFavour z = by(3, "");
        z.record(0, 9);
        rowIs(z, 0, 0, 8, 1, 0, -1);
        rowIs(z, 0, 0, 9, 2, 0, 0);
        rowIs(z, 0, 5, 8, -1, -1, -1);
        rowIs(z, 0, 5, 9, 2, 5, 0);
    }

    /** Where the least row is the greatest there is, or near it. */
    private static void theGreatestRow() {
        ThirdFavour x = by(0, "");
        x.record(9, 9);
        for (int record = 0; record <= 8; record++) {
            rowIs(x, 0, record, 9, 2, 9, record);
        }
        rowIs(x, 0, 9, 11, 2, 0, 9);
        rowIs(x, 0, 9, 12, 2, 9, 9);
        rowIs(x, 0, 9, 17, 2, 9, 9);
        rowIs(x, 0, 9, 18, -1, -1, -1);
    }

    /** "all in one minute (that of the last COIN or later, 99 at most)". */
    private static void thatOfTheLastCoinOrLater() {
        ThirdFavour x = by(0, "105;206");
        rowIs(x, 20, 7, 23, 1, 7, -1);
        rowIs(x, 19, 7, 23, -2, -2, -2);
        rowIs(x, 0, 7, 23, -2, -2, -2);
        rowIs(x, 99, 7, 99, 1, 7, -1);
        rowIs(x, 100, 7, 100, -2, -2, -2);
        x.undo();
        rowIs(x, 19, 7, 19, 1, 7, -1);
        ThirdFavour last = by(0, "990");
        rowIs(last, 99, 7, 102, 1, 7, -1);
        rowIs(last, 98, 7, 102, -2, -2, -2);
        ThirdFavour fault = by(0, "990;");
        rowIs(fault, 0, 7, 0, 1, 7, -1);
    }

    /** "hour, a minute 0 to 199". */
    private static void hourZeroAndTheLast() {
        ThirdFavour x = by(0, "001;001;001");
        x.scratch(1, 0, 0);
        x.record(2, 9);
        x.set(0, 60);
        rowIs(x, 0, 1, 0, 0, -1, -1);
        rowIs(x, 0, 1, 179, 0, -1, -1);
        rowIs(x, 0, 1, 180, 1, 1, -1);
        rowIs(x, 0, 1, 199, 1, 1, -1);
        rowIs(x, 0, 1, 200, -2, -2, -2);
        rowIs(x, 0, 1, -1, -2, -2, -2);
        rowIs(x, 0, 2, 188, 1, 2, -1);
        rowIs(x, 0, 2, 189, 2, 0, 2);
        rowIs(x, 0, 2, 191, 2, 0, 2);
        rowIs(x, 0, 2, 192, 2, 2, 2);
        rowIs(x, 0, 2, 197, 2, 2, 2);
        rowIs(x, 0, 2, 198, -1, -1, -1);
        rowIs(x, 0, 2, 199, -1, -1, -1);
    }

    /** "NONE: it takes more, or cannot be". */
    private static void itTakesMoreOrCannotBe() {
        ThirdFavour x = by(0, "");
        rowIs(x, 0, 9, 8, -1, -1, -1);
        rowIs(x, 10, 9, 9, -1, -1, -1);
        rowIs(x, 99, 9, 199, -1, -1, -1);
        ThirdFavour busy = by(0, "001");
        rowIs(busy, 0, 9, 2, -1, -1, -1);
    }

    /** "FULL: there would be more than 20 COINS (only where it is not so with fewer)". */
    private static void moreThanTwenty() {
        ThirdFavour x = by(0, coins(20, "001"));
        rowIs(x, 0, 1, 59, 0, -1, -1);
        rowIs(x, 0, 2, 59, -4, -4, -4);
        rowIs(x, 0, 1, 60, -4, -4, -4);
        x.undo();
        rowIs(x, 0, 1, 56, 0, -1, -1);
        rowIs(x, 0, 2, 57, 1, 2, -1);
        rowIs(x, 0, 2, 56, -4, -4, -4);
        rowIs(x, 0, 2, 60, -4, -4, -4);
        x.undo();
        rowIs(x, 0, 2, 54, 1, 2, -1);
        rowIs(x, 0, 2, 59, 2, 0, 2);
        rowIs(x, 0, 2, 60, -1, -1, -1);
        rowIs(x, 0, 2, 53, -1, -1, -1);
        CHECK.due("none is put in", x.count(0), 18);
    }

    /** By LAW 1 the first two COINS of all play nothing, and a COIN more plays what is told already. */
    private static void moreByTwoAhead() {
        rowIs(by(1, ""), 0, 0, 0, -1, -1, -1);
        rowIs(by(1, "005"), 0, 5, 0, 2, 0, 0);
        rowIs(by(1, "005"), 0, 0, 0, -1, -1, -1);
        ThirdFavour x = by(1, "005;006");
        rowIs(x, 99, 5, 99, 1, 0, -1);
        rowIs(x, 99, 6, 102, 2, 0, 0);
        rowIs(x, 99, 6, 99, -1, -1, -1);
    }

    /** A RECORD that is broken cannot be; one that breaks what is ahead of it can. */
    private static void moreOfABrokenRecord() {
        ThirdFavour x = by(0, "005");
        x.set(2, 1);
        rowIs(x, 50, 5, 50, -1, -1, -1);
        rowIs(x, 50, 5, 2, 0, -1, -1);
        rowIs(x, 50, 6, 50, 1, 6, -1);
        rowIs(x, 50, 6, 53, 2, 0, 6);
        x.set(2, 2);
        rowIs(x, 50, 5, 50, 1, 5, -1);
        rowIs(x, 50, 5, 53, 2, 0, 5);
    }

    /** "were a COIN not there", and it is the only one. */
    private static void stuckOneOfOne() {
        ThirdFavour x = by(0, "505");
        for (int record = 0; record <= 9; record++) {
            CHECK.due("stuck(0, " + record + ")", x.stuck(0, record), 0);
        }
        CHECK.due("stuck(0, -1)", x.stuck(0, -1), 0);
        CHECK.due("stuck(1, -1)", x.stuck(1, -1), -2);
        CHECK.due("stuck(-1, -1)", x.stuck(-1, -1), -2);
        CHECK.due("it is there", x.times(5), 1);
    }

    /** The first and the last of twenty. */
    private static void stuckOneOfTwenty() {
        ThirdFavour x = by(0, "008;" + coins(18, "001") + ";009");
        x.record(8, 9);
        CHECK.due("stuck(0, 8)", x.stuck(0, 8), 0);
        CHECK.due("stuck(0, 1)", x.stuck(0, 1), 18);
        CHECK.due("stuck(0, 9)", x.stuck(0, 9), 1);
        CHECK.due("stuck(19, 9)", x.stuck(19, 9), 0);
        CHECK.due("stuck(19, 8)", x.stuck(19, 8), 1);
        CHECK.due("stuck(18, 1)", x.stuck(18, 1), 17);
        CHECK.due("pleased: 0, 9, 12, 15", x.night(0, 1), 4);
        CHECK.due("stuck(0, -1): 0, 3, 6, 9, 12, 15", x.stuck(0, -1), 6);
        CHECK.due("stuck(19, -1)", x.stuck(19, -1), 4);
        CHECK.due("stuck(20, -1)", x.stuck(20, -1), -2);
        CHECK.due("twenty are there", x.count(0), 20);
        CHECK.due("the first is there", x.coin(0, 1), 8);
        CHECK.due("the last is there", x.coin(19, 1), 9);
    }

    /** The others wait from their own minutes on, whatever was asked of the object ahead of it. */
    private static void stuckLeavesTheMinutes() {
        ThirdFavour x = by(0, "005;006;307");
        x.set(3, 0);
        int[] pleased = {2, 2, 1};
        for (int coin = 0; coin < 3; coin++) {
            CHECK.due("PATIENCE 0: stuck(" + coin + ", -1)", x.stuck(coin, -1), pleased[coin]);
        }
        ThirdFavour y = by(0, "001;001;001");
        y.set(3, 2);
        CHECK.due("stuck(0, -1) ahead of all other questions", y.stuck(0, -1), 1);
        y.record(1, 2);
        CHECK.due("stuck(0, -1) as soon as a RECORD is shorter", y.stuck(0, -1), 2);
        ThirdFavour late = by(0, "001;001;001;001;001;002");
        late.scratch(1, 0, 0);
        late.set(0, 50);
        CHECK.due("in minute 250: times(2)", late.times(2), 0);
        late.set(0, 49);
        CHECK.due("in minute 196: stuck(0, 2)", late.stuck(0, 2), 1);
        late.set(0, 50);
        CHECK.due("in minute 200: stuck(0, 2)", late.stuck(0, 2), 0);
    }

    /** By LAW 1 those that are left have their COINS two ahead anew; the first two of them play nothing. */
    private static void stuckTwoAhead() {
        ThirdFavour x = by(1, "005;006;007");
        CHECK.due("times(5)", x.times(5), 1);
        for (int coin = 0; coin < 3; coin++) {
            CHECK.due("two are left: stuck(" + coin + ", 5)", x.stuck(coin, 5), 0);
            CHECK.due("two are left: stuck(" + coin + ", -1)", x.stuck(coin, -1), 0);
        }
        Check.typeAll(x, ";008");
        CHECK.due("stuck(0, 6)", x.stuck(0, 6), 1);
        CHECK.due("stuck(1, 5)", x.stuck(1, 5), 1);
        CHECK.due("stuck(2, 5)", x.stuck(2, 5), 1);
        CHECK.due("stuck(2, 6)", x.stuck(2, 6), 0);
        CHECK.due("stuck(3, 6)", x.stuck(3, 6), 0);
    }

    /** "HEARD, 8 at most: in a minute (0 to 199) a RECORD played, or nothing (NONE)". */
    private static void eightHeard() {
        ThirdFavour x = by(0, "005");
        CHECK.due("forget() of none", x.forget(), 0);
        for (int i = 1; i <= 8; i++) {
            CHECK.due("heard() as number " + i, x.heard(i == 1 ? 0 : 199, i == 1 ? 5 : -1), i);
            CHECK.due("count(5)", x.count(5), i);
        }
        CHECK.due("all laws but 1", x.laws(), 13);
        CHECK.due("a ninth", x.heard(199, 9), -4);
        CHECK.due("it is not HEARD", x.laws(), 13);
        CHECK.due("BAD ahead of FULL", x.heard(200, 9), -2);
        CHECK.due("count(5)", x.count(5), 8);
        CHECK.due("forget()", x.forget(), 8);
        CHECK.due("all laws", x.laws(), 15);
        CHECK.due("heard() from anew", x.heard(199, 9), 1);
        CHECK.due("no law", x.laws(), 0);
    }

    /** "those by which all that was HEARD comes out so": all where nothing was; the eighth counts like the first. */
    private static void lawsOfNothingHeard() {
        CHECK.due("nothing heard, no COINS", new ThirdFavour().laws(), 15);
        ThirdFavour none = new ThirdFavour();
        none.heard(0, -1);
        CHECK.due("nothing plays", none.laws(), 15);
        none.heard(199, 0);
        CHECK.due("something plays", none.laws(), 0);
        ThirdFavour x = Check.with("005");
        for (int i = 0; i < 7; i++) {
            x.heard(50, -1);
        }
        CHECK.due("seven", x.laws(), 15);
        x.heard(0, -1);
        CHECK.due("the eighth", x.laws(), 2);
        ThirdFavour y = Check.with("005");
        y.heard(0, -1);
        for (int i = 0; i < 7; i++) {
            y.heard(50, -1);
        }
        CHECK.due("the first", y.laws(), 2);
    }

    private static void lawsOfTheLastMinute() {
        ThirdFavour x = Check.with("001;001;001;001;001");
        x.scratch(1, 0, 0);
        x.set(0, 50);
        x.heard(199, 1);
        CHECK.due("by law 1 three play, until 150", x.laws(), 13);
        x.forget();
        x.heard(149, 1);
        CHECK.due("minute 149", x.laws(), 15);
        x.heard(150, -1);
        CHECK.due("minute 150", x.laws(), 2);
        CHECK.due("a minute 200 is not HEARD", x.heard(200, -1), -2);
        CHECK.due("count(5)", x.count(5), 2);
    }

    private static void fractionIs(ThirdFavour x, int button, long above, long below) {
        CHECK.due("next(" + button + ", 0)", x.next(button, 0), above);
        CHECK.due("next(" + button + ", 1)", x.next(button, 1), below);
    }

    /** "one more than how often it was, by ten more than all COINS"; "told in lowest terms". */
    private static void chanceOfNoneAndOfTwenty() {
        for (int button = 0; button <= 9; button++) {
            fractionIs(new ThirdFavour(), button, 1, 10);
        }
        ThirdFavour x = Check.with(coins(20, "000"));
        fractionIs(x, 0, 7, 10);
        fractionIs(x, 9, 1, 30);
        x.undo();
        fractionIs(x, 0, 20, 29);
        x.undo();
        fractionIs(x, 0, 19, 28);
        fractionIs(x, 1, 1, 28);
        ThirdFavour y = Check.with(coins(8, "009"));
        fractionIs(y, 9, 1, 2);
        fractionIs(y, 0, 1, 18);
        fractionIs(Check.with("004;005"), 4, 1, 6);
        fractionIs(Check.with("004;005;"), 4, 1, 10);
        for (int button : new int[] {-1, 10}) {
            CHECK.due("next(" + button + ", 0)", x.next(button, 0), Long.MIN_VALUE + 2);
        }
        for (int what : new int[] {-1, 2}) {
            CHECK.due("next(0, " + what + ")", x.next(0, what), Long.MIN_VALUE + 2);
        }
    }

    /** "COINS since a BUTTON was asked last (all, if never)". */
    private static void sinceOfNoneAndOfTwenty() {
        ThirdFavour none = new ThirdFavour();
        for (int button = 0; button <= 9; button++) {
            CHECK.due("no COINS: since(" + button + ")", none.since(button), 0);
        }
        ThirdFavour x = Check.with("007;" + coins(18, "001") + ";009");
        CHECK.due("the last", x.since(9), 0);
        CHECK.due("the last but one", x.since(1), 1);
        CHECK.due("the first of twenty", x.since(7), 19);
        CHECK.due("never", x.since(0), 20);
        x.undo();
        CHECK.due("undone", x.since(9), 19);
        CHECK.due("the last now", x.since(1), 0);
    }
}
