/** Each sentence of the document that names a boundary case of the text of the COINS (promises 4 to 8, 14). */
public final class CoinEdgesTest {
    private static final Check CHECK = new Check("edges of coins");
    private static final String TWENTY = "001" + ";001".repeat(19);

    public static void main(String[] args) {
        upToEightyBytes();
        anyByteMayCome();
        theFirstByteWithWhichItCannotGoOn();
        theFaultStays();
        anEmptyTextIsWell();
        notEnded();
        aMinuteThatIsTooEarly();
        leastAndGreatestCoins();
        twentyAtMost();
        withAFaultThereAreNone();
        undoneWithTheSemicolon();
        undoOfTwenty();
        wipeOfAll();
        setTakesEffect();
        CHECK.end();
    }

    /** "COINS are a text of up to 80 bytes". */
    private static void upToEightyBytes() {
        ThirdFavour x = new ThirdFavour();
        for (int i = 1; i <= 80; i++) {
            CHECK.due("byte " + i, x.type(i % 4 == 0 ? ';' : '0'), i);
            CHECK.due("bytes " + i, x.count(1), i);
        }
        CHECK.due("byte 81", x.type('0'), -4);
        CHECK.due("byte 81 again", x.type(';'), -4);
        CHECK.due("80 bytes stay", x.count(1), 80);
        CHECK.due("the FAULT stays", x.fault(), 80);
        CHECK.due("wipe()", x.wipe(), 80);
        CHECK.due("then there is room", x.type('0'), 1);
    }

    /** "A byte (0 to 255) comes behind COINS": also one with which they cannot go on. */
    private static void anyByteMayCome() {
        ThirdFavour x = new ThirdFavour();
        CHECK.due("byte 0", x.type(0), 1);
        CHECK.due("byte 255", x.type(255), 2);
        CHECK.due("byte -1", x.type(-1), -2);
        CHECK.due("byte 256", x.type(256), -2);
        CHECK.due("byte 256 + '0'", x.type(256 + '0'), -2);
        CHECK.due("two bytes", x.count(1), 2);
        CHECK.due("the first cannot be", x.fault(), 0);
    }

    /** "The FAULT is the place of the first byte with which it cannot go on": each byte at each place of a COIN. */
    private static void theFirstByteWithWhichItCannotGoOn() {
        String text = "240;246;";
        for (int place = 0; place < text.length(); place++) {
            for (int b = 0; b <= 255; b++) {
                ThirdFavour x = Check.with(text.substring(0, place));
                x.type(b);
                boolean may = place % 4 == 3 ? b == ';' : b >= '0' && b <= '9';
                boolean early = place == 5 && b < '4';
                int due = !may || early ? place : place % 4 == 2 ? -1 : place + 1;
                CHECK.due("byte " + b + " at " + place, x.fault(), due);
            }
        }
    }

    /** The first one stays the FAULT, whatever comes behind. */
    private static void theFaultStays() {
        ThirdFavour x = Check.with("001;0a1;;;002");
        CHECK.due("the first of three", x.fault(), 5);
        x = Check.with("200;190;zz");
        CHECK.due("an early minute ahead of a wrong byte", x.fault(), 5);
        x = Check.with("200;2x0;190");
        CHECK.due("a wrong byte ahead of an early minute", x.fault(), 5);
        x = Check.with("200;1x0");
        CHECK.due("a wrong byte as the second figure of an early minute", x.fault(), 5);
        x = Check.with("000;000;001;;");
        CHECK.due("a second ;", x.fault(), 12);
    }

    /** "an empty text is well". */
    private static void anEmptyTextIsWell() {
        ThirdFavour x = new ThirdFavour();
        CHECK.due("fault() at first", x.fault(), -1);
        Check.typeAll(x, "xyz");
        x.wipe();
        CHECK.due("fault() after wipe()", x.fault(), -1);
        Check.typeAll(x, "001");
        x.undo();
        CHECK.due("fault() after undo() of the last", x.fault(), -1);
        CHECK.due("no bytes", x.count(1), 0);
    }

    /** "of one that is not ended, as behind a ;, its end". */
    private static void notEnded() {
        for (int bytes = 1; bytes <= 79; bytes++) {
            ThirdFavour x = Check.with(TWENTY.substring(0, bytes));
            boolean ended = bytes % 4 == 3;
            CHECK.due("fault() of " + bytes + " bytes", x.fault(), ended ? -1 : bytes);
            CHECK.due("COINS of " + bytes + " bytes", x.count(0), ended ? (bytes + 1) / 4 : 0);
        }
    }

    private static void faultIs(String text, int place) {
        CHECK.due("fault() of '" + text + "'", Check.with(text).fault(), place);
    }

    /** "no less than that of the one ahead"; "of the second figure of a minute that is too early". */
    private static void aMinuteThatIsTooEarly() {
        faultIs("500;500", -1);
        faultIs("500;510", -1);
        faultIs("500;490", 5);
        faultIs("500;400", 5);
        faultIs("500;4", 5);
        faultIs("500;49", 5);
        faultIs("990;990", -1);
        faultIs("990;980", 5);
        faultIs("990;000", 5);
        faultIs("000;000", -1);
        faultIs("010;000", 5);
        faultIs("099;100", -1);
        faultIs("100;099", 5);
        faultIs("009;000", -1);
        faultIs("100;200;100", 9);
        faultIs("100;200;190", 9);
        faultIs("100;200;200", -1);
        faultIs(TWENTY.substring(0, 75) + ";001", -1);
        faultIs(TWENTY.substring(0, 72) + "501;491", 77);
        faultIs(TWENTY.substring(0, 72) + "501;501", -1);
    }

    /** "the minute (two figures, 00 to 99 ..), a BUTTON (0 to 9 ..)". */
    private static void leastAndGreatestCoins() {
        ThirdFavour x = Check.with("000;009;990;999");
        int[][] coins = {{0, 0}, {0, 9}, {99, 0}, {99, 9}};
        CHECK.due("four COINS", x.count(0), 4);
        for (int c = 0; c < 4; c++) {
            CHECK.due("coin(" + c + ", 0)", x.coin(c, 0), coins[c][0]);
            CHECK.due("coin(" + c + ", 1)", x.coin(c, 1), coins[c][1]);
        }
        ThirdFavour all = new ThirdFavour();
        for (int from = 0; from < 100; from += 20) {
            all.wipe();
            for (int m = from; m < from + 20; m++) {
                Check.typeAll(all, (m == from ? "" : ";") + m / 10 + m % 10 + m % 7);
            }
            for (int c = 0; c < 20; c += 3) {
                CHECK.due("minute of COIN " + c, all.coin(c, 0), from + c);
                CHECK.due("BUTTON of COIN " + c, all.coin(c, 1), (from + c) % 7);
            }
        }
    }

    /** "20 at most (0 on)"; "or of the first byte of a twenty-first": there is room for none, so it is the end. */
    private static void twentyAtMost() {
        ThirdFavour x = Check.with(TWENTY.substring(0, 75));
        CHECK.due("nineteen", x.count(0), 19);
        CHECK.due("coin(18, 1)", x.coin(18, 1), 1);
        CHECK.due("coin(19, 1)", x.coin(19, 1), -2);
        Check.typeAll(x, ";992");
        CHECK.due("twenty", x.count(0), 20);
        CHECK.due("coin(19, 0)", x.coin(19, 0), 99);
        CHECK.due("coin(19, 1)", x.coin(19, 1), 2);
        CHECK.due("coin(20, 1)", x.coin(20, 1), -2);
        CHECK.due("no FAULT", x.fault(), -1);
        CHECK.due("a ; behind them", x.type(';'), 80);
        CHECK.due("the FAULT is the end", x.fault(), 80);
        CHECK.due("there are none", x.count(0), 0);
        CHECK.due("a first byte of a twenty-first", x.type('9'), -4);
        CHECK.due("the FAULT is the end still", x.fault(), 80);
        ThirdFavour y = Check.with(TWENTY + "0");
        CHECK.due("a figure behind twenty", y.fault(), 79);
    }

    /** "With a FAULT there are none": to no call; and when it is mended there are all of them again. */
    private static void withAFaultThereAreNone() {
        ThirdFavour x = Check.with("007;018;019");
        x.set(1, 0);
        x.set(2, 1);
        x.sheet(0, 2, 3);
        x.type(';');
        CHECK.due("fault()", x.fault(), 12);
        CHECK.due("count(0)", x.count(0), 0);
        CHECK.due("count(1)", x.count(1), 12);
        CHECK.due("count(4)", x.count(4), 0);
        CHECK.due("undo()", x.undo(), -3);
        CHECK.due("coin(0, 1)", x.coin(0, 1), -2);
        CHECK.due("served(0, 0)", x.served(0, 0), -2);
        CHECK.due("stuck(0, -1)", x.stuck(0, -1), -2);
        for (int m = 0; m <= 9; m++) {
            CHECK.due("at(" + m + ")", x.at(m), -1);
        }
        for (int law = 0; law < 4; law++) {
            for (int what = 0; what < 3; what++) {
                CHECK.due("night(" + law + ", " + what + ")", x.night(law, what), 0);
            }
        }
        CHECK.due("best()", x.best(), 0);
        CHECK.due("times(7)", x.times(7), 0);
        CHECK.due("first()", x.first(), -1);
        CHECK.due("ask(0, 3, 0, 0): none is ahead", x.ask(0, 3, 0, 0), 1);
        CHECK.due("next(7, 0)", x.next(7, 0), 1);
        CHECK.due("next(7, 1)", x.next(7, 1), 10);
        CHECK.due("since(9)", x.since(9), 0);
        x.heard(0, -1);
        CHECK.due("laws()", x.laws(), 15);
        CHECK.due("write(0)", x.write(0), 0);
        Check.typeAll(x, "055");
        CHECK.due("mended: count(0)", x.count(0), 4);
        CHECK.due("mended: at(0)", x.at(0), 7);
        CHECK.due("mended: laws()", x.laws(), 2);
        CHECK.due("mended: write(0)", x.write(0), 3);
        CHECK.due("mended: get(0, 2, 2)", x.get(0, 2, 2), 9);
    }

    /** "The last COIN is undone, with the ; ahead of it"; the first has none ahead. */
    private static void undoneWithTheSemicolon() {
        ThirdFavour x = Check.with("001;002");
        CHECK.due("undo() of two", x.undo(), 1);
        CHECK.due("three bytes", x.count(1), 3);
        CHECK.due("well", x.fault(), -1);
        CHECK.due("undo() of one", x.undo(), 0);
        CHECK.due("no bytes", x.count(1), 0);
        CHECK.due("undo() of none", x.undo(), -3);
        CHECK.due("no bytes", x.count(1), 0);
        for (String text : new String[] {"0", "00", "001;", "001;0", "001;00", "001;002;", "001x", "500;491", TWENTY + ";"}) {
            ThirdFavour y = Check.with(text);
            CHECK.due("undo() of '" + text + "'", y.undo(), -3);
            CHECK.due("bytes of '" + text + "'", y.count(1), text.length());
        }
    }

    private static void undoOfTwenty() {
        ThirdFavour x = Check.with(TWENTY);
        for (int left = 19; left >= 0; left--) {
            CHECK.due("undo()", x.undo(), left);
            CHECK.due("bytes", x.count(1), Math.max(4 * left - 1, 0));
            CHECK.due("COINS", x.count(0), left);
        }
        CHECK.due("undo() of none", x.undo(), -3);
        Check.typeAll(x, TWENTY);
        CHECK.due("twenty again", x.count(0), 20);
        x.undo();
        Check.typeAll(x, ";009");
        CHECK.due("another last", x.coin(19, 1), 9);
    }

    /** "COINS are empty: how many bytes they had": 0 to 80, with a FAULT or without. */
    private static void wipeOfAll() {
        for (int bytes = 0; bytes <= 80; bytes++) {
            ThirdFavour x = Check.with((TWENTY + ";").substring(0, bytes));
            CHECK.due("wipe() of " + bytes, x.wipe(), bytes);
            CHECK.due("no bytes", x.count(1), 0);
            CHECK.due("no COINS", x.count(0), 0);
            CHECK.due("well", x.fault(), -1);
            CHECK.due("wipe() of none", x.wipe(), 0);
        }
    }

    /** "KICK .., LAW .., LIFE .., PATIENCE ..: what it was", the least and the greatest of each. */
    private static void setTakesEffect() {
        int[][] each = {{20, 1, 60}, {1, 0, 3}, {99, 1, 99}, {15, 0, 99}};
        ThirdFavour x = new ThirdFavour();
        for (int what = 0; what < 4; what++) {
            CHECK.due("set(" + what + ", least)", x.set(what, each[what][1]), each[what][0]);
            CHECK.due("below the least", x.set(what, each[what][1] - 1), -2);
            CHECK.due("set(" + what + ", greatest)", x.set(what, each[what][2]), each[what][1]);
            CHECK.due("above the greatest", x.set(what, each[what][2] + 1), -2);
        }
        for (int what = 0; what < 4; what++) {
            CHECK.due("each has its own", x.set(what, each[what][1]), each[what][2]);
        }
        CHECK.due("set(-1, 1)", x.set(-1, 1), -2);
        CHECK.due("set(4, 1)", x.set(4, 1), -2);
    }
}
