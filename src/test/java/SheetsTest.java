/** Promises 28 to 33: sheets, and what can go wrong with a row. */
public final class SheetsTest {
    private static final Check CHECK = new Check("sheets");
    private static final int LEAST = Integer.MIN_VALUE;

    public static void main(String[] args) {
        sheet();
        lose();
        lay();
        get();
        copy();
        copyRefused();
        write();
        CHECK.end();
    }

    private static void rowIs(String name, ThirdFavour x, int s, int form, int... items) {
        for (int i = 0; i < items.length; i++) {
            CHECK.due(name + " get(" + s + ", " + form + ", " + i + ")", x.get(s, form, i), items[i]);
        }
    }

    private static void fill(ThirdFavour x, int s, int form, int... items) {
        x.sheet(s, form, items.length);
        for (int i = 0; i < items.length; i++) {
            x.lay(s, form, i, items[i]);
        }
    }

    private static void sheet() {
        ThirdFavour x = new ThirdFavour();
        CHECK.due("sheet(0, 0, 0)", x.sheet(0, 0, 0), 0);
        CHECK.due("sheet(3, 2, 60)", x.sheet(3, 2, 60), 60);
        CHECK.due("get(3, 2, 59)", x.get(3, 2, 59), 0);
        CHECK.due("sheet(3, 2, 61)", x.sheet(3, 2, 61), -2);
        CHECK.due("sheet(-1, 0, 1)", x.sheet(-1, 0, 1), -2);
        CHECK.due("sheet(4, 0, 1)", x.sheet(4, 0, 1), -2);
        CHECK.due("sheet(0, -1, 1)", x.sheet(0, -1, 1), -2);
        CHECK.due("sheet(0, 3, 1)", x.sheet(0, 3, 1), -2);
        CHECK.due("BAD ahead of SIZE", x.sheet(0, 3, -1), -2);
        CHECK.due("BAD is no finding", x.count(8), 0);
        CHECK.due("sheet(0, 0, -1)", x.sheet(0, 0, -1), -15);
        CHECK.due("the finding", x.count(8), 5);
        CHECK.due("sheet(1, 0, least)", x.sheet(1, 0, LEAST), -15);
        CHECK.due("a refusal makes no SHEET", x.lose(1), -11);
        CHECK.due("a refusal leaves the old one", x.lose(3), 60);
        fill(x, 1, 1, 7, 8, 9);
        x.sheet(1, 1, 4);
        rowIs("a new row", x, 1, 1, 0, 0, 0, 0);
    }

    private static void lose() {
        ThirdFavour x = new ThirdFavour();
        CHECK.due("lose(-1)", x.lose(-1), -2);
        CHECK.due("lose(4)", x.lose(4), -2);
        CHECK.due("lose(2)", x.lose(2), -11);
        CHECK.due("the finding", x.count(8), 1);
        x.sheet(2, 1, 5);
        CHECK.due("lose(2)", x.lose(2), 5);
        CHECK.due("lose(2) again", x.lose(2), -11);
        x.sheet(2, 1, 0);
        CHECK.due("lose(2) of no items", x.lose(2), 0);
    }

    private static void lay() {
        ThirdFavour x = new ThirdFavour();
        CHECK.due("lay on a LOST one", x.lay(0, 0, 0, 1), -11);
        x.sheet(0, 0, 4);
        x.sheet(1, 1, 4);
        x.sheet(2, 2, 4);
        int[] values = {127, 128, -129, 98304 + 255};
        int[][] kept = {{127, -128, 127, -1}, {127, 128, -129, -32768 + 255}, {127, 128, -129, 98304 + 255}};
        for (int form = 0; form < 3; form++) {
            for (int i = 0; i < 4; i++) {
                CHECK.due("lay(" + form + ", .., " + values[i] + ")", x.lay(form, form, i, values[i]), 1);
            }
            rowIs("laid", x, form, form, kept[form]);
        }
        x.lay(2, 2, 0, LEAST);
        CHECK.due("an int least of all", x.get(2, 2, 0), LEAST);
        CHECK.due("lay(-1, ..)", x.lay(-1, 0, 0, 1), -2);
        CHECK.due("lay(4, ..)", x.lay(4, 0, 0, 1), -2);
        CHECK.due("FORM 3", x.lay(0, 3, 0, 1), -2);
        CHECK.due("FORM -1", x.lay(0, -1, 0, 1), -2);
        CHECK.due("BAD ahead of NULL", x.lay(3, 3, 0, 1), -2);
        CHECK.due("NULL ahead of all others", x.lay(3, 0, 9, 1), -11);
        CHECK.due("CAST", x.lay(0, 1, 0, 1), -13);
        CHECK.due("the finding", x.count(8), 3);
        CHECK.due("CAST ahead of INDEX", x.lay(0, 1, 4, 1), -13);
        CHECK.due("INDEX", x.lay(0, 0, 4, 1), -12);
        CHECK.due("the finding", x.count(8), 2);
        CHECK.due("INDEX below", x.lay(0, 0, -1, 1), -12);
        CHECK.due("INDEX in the room behind", x.lay(0, 0, 59, 1), -12);
        rowIs("unchanged", x, 0, 0, kept[0]);
    }

    private static void get() {
        ThirdFavour x = new ThirdFavour();
        CHECK.due("get(4, 0, 0)", x.get(4, 0, 0), LEAST);
        CHECK.due("get(-1, 0, 0)", x.get(-1, 0, 0), LEAST);
        CHECK.due("get(0, 3, 0)", x.get(0, 3, 0), LEAST);
        CHECK.due("get(0, -1, 0)", x.get(0, -1, 0), LEAST);
        CHECK.due("BAD is no finding", x.count(8), 0);
        CHECK.due("get of a LOST one", x.get(0, 0, 0), LEAST);
        CHECK.due("NULL", x.count(8), 1);
        x.sheet(0, 0, 2);
        CHECK.due("get of another FORM", x.get(0, 2, 2), LEAST);
        CHECK.due("CAST", x.count(8), 3);
        CHECK.due("get behind the last", x.get(0, 0, 2), LEAST);
        CHECK.due("INDEX", x.count(8), 2);
        CHECK.due("get", x.get(0, 0, 1), 0);
        CHECK.due("the finding stays the latest", x.count(8), 2);
        CHECK.due("get ahead of the first", x.get(0, 0, -1), LEAST);
        x.get(9, 0, 0);
        CHECK.due("BAD leaves the finding", x.count(8), 2);
    }

    private static void copy() {
        ThirdFavour x = new ThirdFavour();
        fill(x, 0, 1, 1, 2, 3, 4, 5);
        fill(x, 1, 1, 9, 9, 9, 9);
        CHECK.due("copy to another", x.copy(0, 1, 1, 0, 3), 1);
        rowIs("copied", x, 1, 1, 2, 3, 4, 9);
        CHECK.due("copy up in itself", x.copy(0, 0, 0, 1, 4), 1);
        rowIs("as they were", x, 0, 1, 1, 1, 2, 3, 4);
        CHECK.due("copy down in itself", x.copy(0, 2, 0, 0, 3), 1);
        rowIs("as they were", x, 0, 1, 2, 3, 4, 3, 4);
        CHECK.due("copy of all", x.copy(1, 0, 0, 1, 4), 1);
        rowIs("copied", x, 0, 1, 2, 2, 3, 4, 9);
        CHECK.due("copy of none behind both", x.copy(0, 5, 1, 4, 0), 1);
        rowIs("none copied", x, 0, 1, 2, 2, 3, 4, 9);
    }

    private static void copyRefused() {
        ThirdFavour x = new ThirdFavour();
        fill(x, 0, 2, 1, 2, 3);
        fill(x, 1, 2, 4, 5);
        fill(x, 2, 1, 6, 7);
        CHECK.due("SHEET s -1", x.copy(-1, 0, 0, 0, 0), -2);
        CHECK.due("SHEET s 4", x.copy(4, 0, 0, 0, 0), -2);
        CHECK.due("SHEET t -1", x.copy(0, 0, -1, 0, 0), -2);
        CHECK.due("SHEET t 4", x.copy(3, 0, 4, 0, 0), -2);
        CHECK.due("s LOST", x.copy(3, 0, 0, 0, 0), -11);
        CHECK.due("t LOST", x.copy(0, 0, 3, 0, 0), -11);
        CHECK.due("both LOST", x.copy(3, 9, 3, 9, 9), -11);
        CHECK.due("STORE", x.copy(0, 0, 2, 0, 1), -14);
        CHECK.due("the finding", x.count(8), 4);
        CHECK.due("STORE ahead of INDEX", x.copy(0, -1, 2, 0, 1), -14);
        CHECK.due("STORE with n 0", x.copy(0, 0, 2, 0, 0), -14);
        int[][] wrong = {{-1, 0, 1}, {0, -1, 1}, {0, 0, -1}, {0, 0, 3}, {2, 0, 2}, {0, 1, 2}, {4, 0, 0}, {0, 3, 0},
            {Integer.MAX_VALUE, 0, 1}, {1, 0, Integer.MAX_VALUE}, {0, Integer.MAX_VALUE, 2}, {LEAST, LEAST, LEAST}};
        for (int[] w : wrong) {
            CHECK.due("copy(0, " + w[0] + ", 1, " + w[1] + ", " + w[2] + ")", x.copy(0, w[0], 1, w[1], w[2]), -12);
        }
        CHECK.due("the finding", x.count(8), 2);
        rowIs("unchanged", x, 1, 2, 4, 5);
        CHECK.due("copy(0, 3, 1, 2, 0)", x.copy(0, 3, 1, 2, 0), 1);
    }

    private static void write() {
        ThirdFavour x = Check.with("005;006;007;018");
        CHECK.due("write(-1)", x.write(-1), -2);
        CHECK.due("write(4)", x.write(4), -2);
        CHECK.due("write(0), LOST", x.write(0), -11);
        CHECK.due("the finding", x.count(8), 1);
        fill(x, 0, 0, 99, 99, 99, 99, 99, 99);
        CHECK.due("as many as there are COINS", x.write(0), 4);
        rowIs("law 1", x, 0, 0, -1, -1, 5, 6, 99, 99);
        x.set(1, 0);
        fill(x, 1, 1, 99, 99);
        CHECK.due("as many as there are items", x.write(1), 2);
        rowIs("law 0", x, 1, 1, 5, 6);
        x.sheet(2, 2, 0);
        CHECK.due("no items", x.write(2), 0);
        x.scratch(5, 0, 0);
        x.set(0, 60);
        x.scratch(6, 0, 0);
        x.scratch(7, 0, 0);
        Check.typeAll(x, ";198");
        fill(x, 3, 2, 99, 99, 99, 99, 99);
        CHECK.due("five", x.write(3), 5);
        rowIs("all are chosen", x, 3, 2, 5, 6, 7, 8, 8);
        Check.typeAll(x, ";207;208");
        CHECK.due("seven coins, five items", x.write(3), 5);
        x.sheet(3, 2, 9);
        CHECK.due("seven", x.write(3), 7);
        rowIs("one is not chosen", x, 3, 2, 5, 6, 7, 8, 8, 7, -1, 0, 0);
        x.wipe();
        CHECK.due("no COINS", x.write(3), 0);
        rowIs("nothing comes", x, 3, 2, 5, 6);
    }
}
