/** Promises 4 to 9 and 14: the text of the coins, settings, records from a sheet. */
public final class CoinsTest {
    private static final Check CHECK = new Check("coins");

    public static void main(String[] args) {
        type();
        wipe();
        fault();
        faultOfTwenty();
        undo();
        set();
        read();
        coin();
        CHECK.end();
    }

    private static void type() {
        ThirdFavour x = new ThirdFavour();
        CHECK.due("type(0)", x.type(0), 1);
        CHECK.due("type(255)", x.type(255), 2);
        CHECK.due("type(256)", x.type(256), -2);
        CHECK.due("type(-1)", x.type(-1), -2);
        for (int i = 3; i <= 80; i++) {
            CHECK.due("type(59) as byte " + i, x.type(59), i);
        }
        CHECK.due("type(59) as byte 81", x.type(59), -4);
        CHECK.due("BAD ahead of FULL", x.type(256), -2);
        CHECK.due("bytes", x.count(1), 80);
    }

    private static void wipe() {
        ThirdFavour x = Check.with("123;124");
        CHECK.due("wipe()", x.wipe(), 7);
        CHECK.due("coins after it", x.count(0), 0);
        CHECK.due("bytes after it", x.count(1), 0);
        CHECK.due("fault after it", x.fault(), -1);
        CHECK.due("wipe() of nothing", x.wipe(), 0);
        Check.typeAll(x, "005");
        CHECK.due("coins from anew", x.count(0), 1);
    }

    private static void faultIs(String text, int place, int coins) {
        ThirdFavour x = Check.with(text);
        CHECK.due("fault() of '" + text + "'", x.fault(), place);
        CHECK.due("coins of '" + text + "'", x.count(0), coins);
        CHECK.due("bytes of '" + text + "'", x.count(1), text.length());
    }

    private static void fault() {
        faultIs("", -1, 0);
        faultIs("0", 1, 0);
        faultIs("00", 2, 0);
        faultIs("000", -1, 1);
        faultIs("999", -1, 1);
        faultIs("000;", 4, 0);
        faultIs("000;0", 5, 0);
        faultIs("000;00", 6, 0);
        faultIs("000;000", -1, 2);
        faultIs(";", 0, 0);
        faultIs("a00", 0, 0);
        faultIs("0:0", 1, 0);
        faultIs("0/0", 1, 0);
        faultIs("00;", 2, 0);
        faultIs("0000", 3, 0);
        faultIs("000:000", 3, 0);
        faultIs("000;;", 4, 0);
        faultIs("123;124;", 8, 0);
        faultIs("123;115", 5, 0);
        faultIs("123;11", 5, 0);
        faultIs("123;1", 5, 0);
        faultIs("123;1x5", 5, 0);
        faultIs("123;0", 5, 0);
        faultIs("123;0x", 5, 0);
        faultIs("123;09", 5, 0);
        faultIs("123;120", -1, 2);
        faultIs("109;109;110", -1, 3);
        faultIs("109;110;109", 9, 0);
        faultIs("000 ", 3, 0);
        ThirdFavour x = new ThirdFavour();
        x.type(176);
        CHECK.due("a byte above 127", x.fault(), 0);
    }

    private static void faultOfTwenty() {
        StringBuilder text = new StringBuilder("000");
        for (int i = 1; i < 20; i++) {
            text.append(";0").append(i / 2).append(i % 10);
        }
        faultIs(text.toString(), -1, 20);
        faultIs(text + ";", 80, 0);
        ThirdFavour x = Check.with(text + ";0");
        CHECK.due("a first byte of a twenty-first finds no room", x.count(1), 80);
        CHECK.due("so the end is the fault", x.fault(), 80);
    }

    private static void undo() {
        ThirdFavour x = new ThirdFavour();
        CHECK.due("undo() of nothing", x.undo(), -3);
        Check.typeAll(x, "011;022;023");
        CHECK.due("undo()", x.undo(), 2);
        CHECK.due("its ; is undone", x.count(1), 7);
        CHECK.due("no fault", x.fault(), -1);
        CHECK.due("the last now", x.coin(1, 1), 2);
        x.type(';');
        CHECK.due("with a FAULT there are none", x.undo(), -3);
        CHECK.due("nothing is undone", x.count(1), 8);
        Check.typeAll(x, "039");
        CHECK.due("undo() of the third again", x.undo(), 2);
        CHECK.due("undo() of the second", x.undo(), 1);
        CHECK.due("undo() of the first", x.undo(), 0);
        CHECK.due("no bytes", x.count(1), 0);
        CHECK.due("undo() of nothing left", x.undo(), -3);
    }

    private static void set() {
        int[] first = {20, 1, 99, 15};
        int[] least = {1, 0, 1, 0};
        int[] most = {60, 3, 99, 99};
        for (int what = 0; what < 4; what++) {
            ThirdFavour x = new ThirdFavour();
            String call = "set(" + what + ", ..)";
            CHECK.due(call + " below", x.set(what, least[what] - 1), -2);
            CHECK.due(call + " above", x.set(what, most[what] + 1), -2);
            CHECK.due(call + " far", x.set(what, Integer.MIN_VALUE), -2);
            CHECK.due(call + " least", x.set(what, least[what]), first[what]);
            CHECK.due(call + " most", x.set(what, most[what]), least[what]);
            CHECK.due(call + " least again", x.set(what, least[what]), most[what]);
            CHECK.due("LAW", x.count(6), what == 1 ? 0 : 1);
            CHECK.due("KICK", x.count(7), what == 0 ? 1 : 20);
        }
        ThirdFavour x = new ThirdFavour();
        CHECK.due("set(4, 1)", x.set(4, 1), -2);
        CHECK.due("set(-1, 1)", x.set(-1, 1), -2);
    }

    private static void read() {
        ThirdFavour x = new ThirdFavour();
        CHECK.due("read(-1)", x.read(-1), -2);
        CHECK.due("read(4)", x.read(4), -2);
        CHECK.due("read(0), LOST", x.read(0), -11);
        CHECK.due("the finding", x.count(8), 1);
        x.sheet(0, 2, 12);
        for (int i = 0; i < 12; i++) {
            x.lay(0, 2, i, i % 9 + 1);
        }
        CHECK.due("ten at most", x.read(0), 10);
        CHECK.due("all LONG", x.count(2), 45 + 1);
        x.lay(0, 2, 0, 9);
        x.lay(0, 2, 2, 10);
        CHECK.due("up to one that is too long", x.read(0), 2);
        CHECK.due("the first is read", x.plays(0), 9);
        CHECK.due("the third is not", x.plays(2), 3);
        x.lay(0, 2, 1, 0);
        CHECK.due("up to one that is too short", x.read(0), 1);
        x.lay(0, 2, 0, -1);
        CHECK.due("none", x.read(0), 0);
        x.sheet(1, 0, 2);
        x.lay(1, 0, 0, 5);
        x.lay(1, 0, 1, 6);
        CHECK.due("as many as there are items", x.read(1), 2);
        CHECK.due("from bytes", x.plays(1), 6);
        x.sheet(1, 0, 0);
        CHECK.due("an empty one", x.read(1), 0);
    }

    private static void coin() {
        ThirdFavour x = Check.with("007;458;990");
        int[][] coins = {{0, 7}, {45, 8}, {99, 0}};
        for (int c = 0; c < 3; c++) {
            CHECK.due("coin(" + c + ", 0)", x.coin(c, 0), coins[c][0]);
            CHECK.due("coin(" + c + ", 1)", x.coin(c, 1), coins[c][1]);
        }
        CHECK.due("coin(3, 0)", x.coin(3, 0), -2);
        CHECK.due("coin(-1, 0)", x.coin(-1, 0), -2);
        CHECK.due("coin(0, 2)", x.coin(0, 2), -2);
        CHECK.due("coin(0, -1)", x.coin(0, -1), -2);
        x.type(';');
        CHECK.due("coin(0, 0) with a FAULT", x.coin(0, 0), -2);
    }
}
