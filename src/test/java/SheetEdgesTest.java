/** Each sentence of the document that names a boundary case of SHEETS and counts (promises 28 to 35). */
public final class SheetEdgesTest {
    private static final Check CHECK = new Check("edges of sheets");
    private static final int LEAST = Integer.MIN_VALUE, MOST = Integer.MAX_VALUE;

    public static void main(String[] args) {
        lostAtFirst();
        zeroToSixtyItems();
        aNewRowIsZeroAtFirst();
        lostWithItsItems();
        theLowestBitsThatItHas();
        eachItemByItself();
        eachRowByItself();
        leastIntIsAnItemToo();
        copiedWithNZero();
        copiedAllSixty();
        copiedAsTheyWere();
        copiedWithItsSign();
        writtenAsManyAsThereAre();
        writtenNone();
        theNumberOfTheLatestFinding();
        countsAtTheirEnds();
        CHECK.end();
    }

    private static void laid(ThirdFavour x, int s, int form, int... items) {
        CHECK.due("sheet(" + s + ", " + form + ", " + items.length + ")", x.sheet(s, form, items.length), items.length);
        for (int i = 0; i < items.length; i++) {
            CHECK.due("lay(" + s + ", " + form + ", " + i + ", " + items[i] + ")", x.lay(s, form, i, items[i]), 1);
        }
    }

    private static void rowIs(String name, ThirdFavour x, int s, int form, int... items) {
        for (int i = 0; i < items.length; i++) {
            CHECK.due(name + ": get(" + s + ", " + form + ", " + i + ")", x.get(s, form, i), items[i]);
        }
    }

    /** "all SHEETS are LOST": 0 to 3. */
    private static void lostAtFirst() {
        ThirdFavour x = new ThirdFavour();
        CHECK.due("no FINDING at first", x.count(8), 0);
        for (int s = 0; s <= 3; s++) {
            CHECK.due("lose(" + s + ")", x.lose(s), -11);
            CHECK.due("read(" + s + ")", x.read(s), -11);
            CHECK.due("write(" + s + ")", x.write(s), -11);
            CHECK.due("lay(" + s + ", 0, 0, 0)", x.lay(s, 0, 0, 0), -11);
            CHECK.due("get(" + s + ", 0, 0)", x.get(s, 0, 0), LEAST);
            CHECK.due("copy(" + s + ", 0, " + s + ", 0, 0)", x.copy(s, 0, s, 0, 0), -11);
        }
    }

    /** "a row of a FORM: 0 bytes, 1 shorts, 2 ints, of 0 to 60 items". */
    private static void zeroToSixtyItems() {
        for (int form = 0; form <= 2; form++) {
            for (int n = 0; n <= 60; n++) {
                ThirdFavour x = new ThirdFavour();
                CHECK.due("sheet(0, " + form + ", " + n + ")", x.sheet(0, form, n), n);
                CHECK.due("its last item", x.lay(0, form, n - 1, 1), n == 0 ? -12 : 1);
                CHECK.due("one behind it", x.lay(0, form, n, 1), -12);
                CHECK.due("one behind it", x.get(0, form, n), LEAST);
                CHECK.due("lose(0)", x.lose(0), n);
            }
            ThirdFavour x = new ThirdFavour();
            CHECK.due("sheet(0, " + form + ", 61)", x.sheet(0, form, 61), -2);
            CHECK.due("sheet(0, " + form + ", -1)", x.sheet(0, form, -1), -15);
            CHECK.due("it is LOST still", x.lose(0), -11);
        }
    }

    /** "(0 at first)": also where the row ahead of it was of the same FORM and number. */
    private static void aNewRowIsZeroAtFirst() {
        for (int form = 0; form <= 2; form++) {
            ThirdFavour x = new ThirdFavour();
            laid(x, 3, form, 1, 2, 3);
            CHECK.due("made anew", x.sheet(3, form, 3), 3);
            rowIs("made anew", x, 3, form, 0, 0, 0);
            laid(x, 3, form, 1, 2, 3);
            x.lose(3);
            x.sheet(3, form, 3);
            rowIs("lost and made anew", x, 3, form, 0, 0, 0);
            laid(x, 3, form, 1, 2, 3);
            x.sheet(3, form, 1);
            x.sheet(3, (form + 1) % 3, 3);
            rowIs("shorter, then of another FORM", x, 3, (form + 1) % 3, 0, 0, 0);
        }
        ThirdFavour x = new ThirdFavour();
        x.sheet(0, 2, 60);
        for (int i = 0; i < 60; i++) {
            x.lay(0, 2, i, -1);
        }
        x.sheet(0, 0, 60);
        for (int i = 0; i < 60; i++) {
            CHECK.due("item " + i + " of sixty", x.get(0, 0, i), 0);
        }
    }

    /** "It is LOST: how many items it had": with 0 items it is not LOST yet. */
    private static void lostWithItsItems() {
        ThirdFavour x = new ThirdFavour();
        x.sheet(1, 2, 60);
        x.sheet(2, 0, 0);
        CHECK.due("lose of 60", x.lose(1), 60);
        CHECK.due("lose of 0", x.lose(2), 0);
        CHECK.due("no FINDING", x.count(8), 0);
        CHECK.due("lose again", x.lose(2), -11);
        CHECK.due("get of it", x.get(1, 2, 0), LEAST);
        CHECK.due("NULL", x.count(8), 1);
    }

    /** "v (the lowest bits that it has, with its sign)". */
    private static void theLowestBitsThatItHas() {
        int[][] due = {
            {0, 0, 0, 0}, {1, 1, 1, 1}, {-1, -1, -1, -1},
            {127, 127, 127, 127}, {128, -128, 128, 128}, {129, -127, 129, 129}, {-128, -128, -128, -128},
            {-129, 127, -129, -129}, {255, -1, 255, 255}, {256, 0, 256, 256}, {257, 1, 257, 257}, {-256, 0, -256, -256},
            {32767, -1, 32767, 32767}, {32768, 0, -32768, 32768}, {32769, 1, -32767, 32769},
            {-32768, 0, -32768, -32768}, {-32769, -1, 32767, -32769}, {65535, -1, -1, 65535}, {65536, 0, 0, 65536},
            {65537, 1, 1, 65537}, {-65536, 0, 0, -65536}, {MOST, -1, -1, MOST}, {LEAST, 0, 0, LEAST},
            {LEAST + 1, 1, 1, LEAST + 1}, {MOST - 127, -128, -128, MOST - 127}};
        ThirdFavour x = new ThirdFavour();
        for (int form = 0; form <= 2; form++) {
            x.sheet(form, form, 1);
            for (int[] d : due) {
                CHECK.due("lay(.., " + d[0] + ") as of FORM " + form, x.lay(form, form, 0, d[0]), 1);
                CHECK.due("get of " + d[0] + " as of FORM " + form, x.get(form, form, 0), d[form + 1]);
            }
        }
    }

    /** The first and the last of sixty; no other item changes. */
    private static void eachItemByItself() {
        for (int form = 0; form <= 2; form++) {
            ThirdFavour x = new ThirdFavour();
            x.sheet(0, form, 60);
            x.lay(0, form, 0, 11);
            x.lay(0, form, 59, 22);
            for (int i = 0; i < 60; i++) {
                CHECK.due("item " + i, x.get(0, form, i), i == 0 ? 11 : i == 59 ? 22 : 0);
            }
            CHECK.due("item 60", x.lay(0, form, 60, 1), -12);
            CHECK.due("item -1", x.lay(0, form, -1, 1), -12);
        }
    }

    /** SHEETS 0 to 3, each by itself. */
    private static void eachRowByItself() {
        ThirdFavour x = new ThirdFavour();
        for (int s = 0; s <= 3; s++) {
            laid(x, s, 1, s + 1, s + 11);
        }
        x.lay(0, 1, 0, 99);
        x.sheet(1, 1, 2);
        x.lose(2);
        rowIs("laid on", x, 0, 1, 99, 11);
        rowIs("made anew", x, 1, 1, 0, 0);
        rowIs("as it was", x, 3, 1, 4, 14);
        CHECK.due("LOST", x.get(2, 1, 0), LEAST);
    }

    /** "BAD: the least int; so are NULL, CAST, INDEX (count() 8 tells)": it may be an item, too. */
    private static void leastIntIsAnItemToo() {
        ThirdFavour x = new ThirdFavour();
        laid(x, 0, 2, LEAST);
        CHECK.due("the item", x.get(0, 2, 0), LEAST);
        CHECK.due("no FINDING", x.count(8), 0);
        CHECK.due("no such SHEET", x.get(4, 2, 0), LEAST);
        CHECK.due("no such FORM", x.get(0, 3, 0), LEAST);
        CHECK.due("no FINDING", x.count(8), 0);
        CHECK.due("INDEX", x.get(0, 2, 1), LEAST);
        CHECK.due("it is told", x.count(8), 2);
        CHECK.due("CAST", x.get(0, 0, 0), LEAST);
        CHECK.due("it is told", x.count(8), 3);
        CHECK.due("NULL", x.get(1, 0, 0), LEAST);
        CHECK.due("it is told", x.count(8), 1);
        CHECK.due("the item", x.get(0, 2, 0), LEAST);
        CHECK.due("the latest stays", x.count(8), 1);
    }

    /** "INDEX: below 0, not so many (with n 0, too, if i or j is above how many there are)". */
    private static void copiedWithNZero() {
        for (int n : new int[] {0, 1, 3, 60}) {
            for (int m : new int[] {0, 2, 60}) {
                ThirdFavour x = new ThirdFavour();
                x.sheet(0, 1, n);
                x.sheet(1, 1, m);
                CHECK.due("copy(0, 0, 1, 0, 0)", x.copy(0, 0, 1, 0, 0), 1);
                CHECK.due("from behind the last of " + n, x.copy(0, n, 1, 0, 0), 1);
                CHECK.due("to behind the last of " + m, x.copy(0, 0, 1, m, 0), 1);
                CHECK.due("both", x.copy(0, n, 1, m, 0), 1);
                CHECK.due("no FINDING", x.count(8), 0);
                CHECK.due("from above how many there are", x.copy(0, n + 1, 1, 0, 0), -12);
                CHECK.due("to above how many there are", x.copy(0, 0, 1, m + 1, 0), -12);
                CHECK.due("from below 0", x.copy(0, -1, 1, 0, 0), -12);
                CHECK.due("to below 0", x.copy(0, 0, 1, -1, 0), -12);
                CHECK.due("n below 0", x.copy(0, n, 1, m, -1), -12);
                CHECK.due("one from behind the last", x.copy(0, n, 1, 0, 1), -12);
                CHECK.due("one to behind the last", x.copy(0, 0, 1, m, 1), -12);
            }
        }
    }

    private static void copiedAllSixty() {
        ThirdFavour x = new ThirdFavour();
        x.sheet(2, 0, 60);
        x.sheet(3, 0, 60);
        for (int i = 0; i < 60; i++) {
            x.lay(2, 0, i, i + 1);
        }
        CHECK.due("61 of 60", x.copy(2, 0, 3, 0, 61), -12);
        CHECK.due("60 from 1 on", x.copy(2, 1, 3, 0, 60), -12);
        CHECK.due("60 to 1 on", x.copy(2, 0, 3, 1, 60), -12);
        CHECK.due("nothing came", x.get(3, 0, 0), 0);
        CHECK.due("the last one to the first", x.copy(2, 59, 3, 0, 1), 1);
        CHECK.due("it is 60", x.get(3, 0, 0), 60);
        CHECK.due("the first one to the last", x.copy(2, 0, 3, 59, 1), 1);
        CHECK.due("it is 1", x.get(3, 0, 59), 1);
        CHECK.due("60 of 60", x.copy(2, 0, 3, 0, 60), 1);
        for (int i = 0; i < 60; i++) {
            CHECK.due("item " + i, x.get(3, 0, i), i + 1);
        }
        CHECK.due("60 of 60 to itself", x.copy(2, 0, 2, 0, 60), 1);
        CHECK.due("the last as it was", x.get(2, 0, 59), 60);
    }

    /** "SHEET t (perhaps s, as they were)". */
    private static void copiedAsTheyWere() {
        for (int form = 0; form <= 2; form++) {
            ThirdFavour x = new ThirdFavour();
            laid(x, 0, form, 1, 2, 3, 4, 5);
            CHECK.due("one up", x.copy(0, 0, 0, 1, 4), 1);
            rowIs("one up", x, 0, form, 1, 1, 2, 3, 4);
            laid(x, 0, form, 1, 2, 3, 4, 5);
            CHECK.due("one down", x.copy(0, 1, 0, 0, 4), 1);
            rowIs("one down", x, 0, form, 2, 3, 4, 5, 5);
            laid(x, 0, form, 1, 2, 3, 4, 5);
            CHECK.due("three up by two", x.copy(0, 0, 0, 2, 3), 1);
            rowIs("three up by two", x, 0, form, 1, 2, 1, 2, 3);
            CHECK.due("to where they are", x.copy(0, 1, 0, 1, 3), 1);
            rowIs("to where they are", x, 0, form, 1, 2, 1, 2, 3);
        }
    }

    /** What comes is what the items are; s stays as it was. */
    private static void copiedWithItsSign() {
        ThirdFavour x = new ThirdFavour();
        laid(x, 0, 0, 128, 255, 127);
        laid(x, 1, 0, 9, 9, 9, 9);
        CHECK.due("copy(0, 0, 1, 1, 3)", x.copy(0, 0, 1, 1, 3), 1);
        rowIs("copied", x, 1, 0, 9, -128, -1, 127);
        rowIs("as it was", x, 0, 0, -128, -1, 127);
        x.lay(0, 0, 0, 5);
        CHECK.due("a row of its own", x.get(1, 0, 1), -128);
        x.lose(0);
        CHECK.due("it stays when the other is LOST", x.get(1, 0, 1), -128);
    }

    /** "as many as there are items and COINS": the fewer of them; the items behind stay. */
    private static void writtenAsManyAsThereAre() {
        String twenty = "000" + ";009".repeat(19);
        for (int form = 0; form <= 2; form++) {
            for (int n : new int[] {0, 1, 19, 20, 21, 60}) {
                ThirdFavour x = Check.with(twenty);
                x.set(1, 0);
                x.sheet(0, form, n);
                for (int i = 0; i < n; i++) {
                    x.lay(0, form, i, 77);
                }
                CHECK.due("write(0) of " + n + " items", x.write(0), Math.min(n, 20));
                for (int i = 0; i < n; i++) {
                    CHECK.due("item " + i + " of " + n, x.get(0, form, i), i == 0 ? 0 : i < 20 ? 9 : 77);
                }
            }
        }
    }

    /** "(NONE: nothing)": where a COIN is spent and where it is not chosen; with no COINS nothing is written. */
    private static void writtenNone() {
        for (int form = 0; form <= 2; form++) {
            ThirdFavour x = Check.with("001;002;003");
            laid(x, 0, form, 7, 7, 7, 7);
            CHECK.due("write(0) by law 1", x.write(0), 3);
            rowIs("two are spent", x, 0, form, -1, -1, 1, 7);
            x.wipe();
            CHECK.due("write(0) of no COINS", x.write(0), 0);
            rowIs("as it was", x, 0, form, -1, -1, 1, 7);
            Check.typeAll(x, "001;");
            CHECK.due("write(0) with a FAULT", x.write(0), 0);
            rowIs("as it was", x, 0, form, -1, -1, 1, 7);
            ThirdFavour y = Check.with("001;001;001;001;001");
            y.set(1, 3);
            y.set(0, 50);
            y.scratch(1, 2, 2);
            laid(y, 0, form, 7, 7, 7, 7, 7);
            CHECK.due("write(0) by law 3", y.write(0), 5);
            rowIs("the first is not chosen", y, 0, form, -1, 1, 1, 1, 1);
        }
    }

    /** "8 the number of the latest FINDING (0 before any)". */
    private static void theNumberOfTheLatestFinding() {
        ThirdFavour x = new ThirdFavour();
        CHECK.due("before any", x.count(8), 0);
        CHECK.due("BAD", x.sheet(4, 0, 0), -2);
        CHECK.due("NOT", x.undo(), -3);
        CHECK.due("they are none", x.count(8), 0);
        x.sheet(0, 0, 2);
        x.sheet(1, 1, 2);
        CHECK.due("SIZE", x.sheet(0, 0, -1), -15);
        CHECK.due("5", x.count(8), 5);
        CHECK.due("STORE", x.copy(0, 0, 1, 0, 1), -14);
        CHECK.due("4", x.count(8), 4);
        CHECK.due("CAST", x.lay(0, 1, 0, 0), -13);
        CHECK.due("3", x.count(8), 3);
        CHECK.due("INDEX", x.lay(0, 0, 2, 0), -12);
        CHECK.due("2", x.count(8), 2);
        CHECK.due("NULL", x.lose(2), -11);
        CHECK.due("1", x.count(8), 1);
        CHECK.due("BAD", x.lose(4), -2);
        CHECK.due("what is well", x.lose(0), 2);
        CHECK.due("they leave it", x.count(8), 1);
    }

    /** count() 0 to 8, each at its least and its greatest. */
    private static void countsAtTheirEnds() {
        ThirdFavour x = new ThirdFavour();
        int[] first = {0, 0, 30, 0, 0, 0, 1, 20, 0};
        for (int what = 0; what <= 8; what++) {
            CHECK.due("at first count(" + what + ")", x.count(what), first[what]);
        }
        Check.typeAll(x, "009" + ";009".repeat(19));
        for (int i = 0; i < 8; i++) {
            x.heard(0, 9);
        }
        for (int r = 0; r <= 9; r++) {
            x.record(r, 9);
        }
        x.set(1, 3);
        x.set(0, 60);
        x.sheet(0, 0, -1);
        int[] then = {20, 79, 90, 0, 20, 8, 3, 60, 5};
        for (int what = 0; what <= 8; what++) {
            CHECK.due("then count(" + what + ")", x.count(what), then[what]);
        }
        x.set(1, 0);
        x.set(0, 1);
        x.set(2, 1);
        int[] last = {20, 79, 90, 0, 1, 8, 0, 1, 5};
        for (int what = 0; what <= 8; what++) {
            CHECK.due("last count(" + what + ")", x.count(what), last[what]);
        }
        for (int what : new int[] {-1, 9, LEAST, MOST}) {
            CHECK.due("count(" + what + ")", x.count(what), -2);
        }
    }
}
