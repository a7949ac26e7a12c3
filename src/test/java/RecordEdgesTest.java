/** Each sentence of the document that names a boundary case of records (promises 1 to 3, 9 to 13). */
public final class RecordEdgesTest {
    private static final Check CHECK = new Check("edges of records");

    public static void main(String[] args) {
        recordsAreZeroToNine();
        longIsOneToNine();
        threeAtFirst();
        fromAGrooveToTheNext();
        ifThatIsNotOfThisRecord();
        behindTheLastOne();
        aGrooveInWhichItWas();
        roundUntilKick();
        kickLessThanGoneThrough();
        kickDoesNotMatter();
        fromAGrooveOrOn();
        grooveOfTheLastMinute();
        inItsGrooves();
        ofLikeOnesTheLeast();
        allAndNoneWaxed();
        readAsLongAsEachMayBe();
        readTenAtMost();
        readCutItems();
        allLongAndAllScratches();
        CHECK.end();
    }

    private static ThirdFavour ofLong(int grooves) {
        ThirdFavour x = new ThirdFavour();
        x.record(0, grooves);
        return x;
    }

    /** "RECORDS are 0 to 9": each has what is its own. */
    private static void recordsAreZeroToNine() {
        ThirdFavour x = new ThirdFavour();
        for (int r = 0; r <= 9; r++) {
            x.record(r, Math.max(r, 1));
        }
        x.scratch(0, 0, 0);
        x.scratch(9, 8, 7);
        int[] plays = {20, 1, 2, 3, 4, 5, 6, 7, 8, 20};
        for (int r = 0; r <= 9; r++) {
            CHECK.due("plays(" + r + ") of its own", x.plays(r), plays[r]);
            CHECK.due("loops(" + r + ") of its own", x.loops(r), r % 9 == 0 ? 1 : 0);
            CHECK.due("record(" + r + ", 5)", x.record(r, 5), Math.max(r, 1));
        }
    }

    /** "with LONG grooves each (1 to 9 ..)". */
    private static void longIsOneToNine() {
        for (int v = 1; v <= 9; v++) {
            ThirdFavour x = ofLong(v);
            CHECK.due("plays of LONG " + v, x.plays(0), v);
            CHECK.due("its last groove", x.groove(0, v - 1), v - 1);
            CHECK.due("behind it", x.groove(0, v), -1);
            CHECK.due("loops of LONG " + v, x.loops(0), 0);
        }
        ThirdFavour x = ofLong(9);
        CHECK.due("from 9", x.record(0, 1), 9);
        CHECK.due("to 1", x.plays(0), 1);
        CHECK.due("from 1", x.record(0, 9), 1);
        CHECK.due("to 9", x.plays(0), 9);
    }

    /** "3 at first"; KICK "20 at first". */
    private static void threeAtFirst() {
        ThirdFavour x = new ThirdFavour();
        for (int r = 0; r <= 9; r++) {
            CHECK.due("LONG at first", x.record(r, 1), 3);
        }
        x.scratch(0, 0, 0);
        CHECK.due("KICK at first", x.plays(0), 20);
    }

    /** "The arm begins at groove 0, stays a minute in each, and goes from a groove to the next". */
    private static void fromAGrooveToTheNext() {
        ThirdFavour x = ofLong(9);
        for (int minute = 0; minute <= 59; minute++) {
            CHECK.due("groove(0, " + minute + ")", x.groove(0, minute), minute < 9 ? minute : -1);
        }
    }

    /** "or .. to a told one (0 to 9: if that is not of this RECORD, it has played)". */
    private static void ifThatIsNotOfThisRecord() {
        for (int grooves = 1; grooves <= 9; grooves++) {
            for (int to = 0; to <= 9; to++) {
                ThirdFavour x = ofLong(grooves);
                CHECK.due("scratch(0, 0, " + to + ")", x.scratch(0, 0, to), -1);
                int due = to == 0 ? 20 : to >= grooves ? 1 : 1 + grooves - to;
                String name = "of LONG " + grooves + ", 0 to " + to;
                CHECK.due("plays " + name, x.plays(0), due);
                CHECK.due("loops " + name, x.loops(0), to == 0 ? 1 : 0);
                CHECK.due("groove(0, 1) " + name, x.groove(0, 1), to >= grooves ? -1 : to);
            }
        }
    }

    /** "behind the last one it has played", also where the last one is SCRATCHED. */
    private static void behindTheLastOne() {
        for (int grooves = 1; grooves <= 9; grooves++) {
            for (int to = 0; to <= 9; to++) {
                ThirdFavour x = ofLong(grooves);
                x.scratch(0, grooves - 1, to);
                String name = "of LONG " + grooves + ", the last to " + to;
                CHECK.due("loops " + name, x.loops(0), to < grooves ? 1 : 0);
                CHECK.due("plays " + name, x.plays(0), to < grooves ? 20 : grooves);
            }
        }
    }

    /** "If it would come to a groove in which it was already, it LOOPS". */
    private static void aGrooveInWhichItWas() {
        ThirdFavour x = ofLong(4);
        x.scratch(0, 0, 2);
        x.scratch(0, 2, 1);
        CHECK.due("back to one in which it was not", x.loops(0), 1);
        x.scratch(0, 1, 3);
        CHECK.due("and from there ahead: 0 2 1 3", x.loops(0), 0);
        CHECK.due("all four once", x.plays(0), 4);
        x.scratch(0, 3, 3);
        CHECK.due("the last to itself", x.loops(0), 1);
        x.scratch(0, 3, 0);
        CHECK.due("the last to the first", x.loops(0), 1);
        int[] path = {0, 2, 1, 3, 0, 2, 1, 3, 0};
        for (int m = 0; m < path.length; m++) {
            CHECK.due("groove(0, " + m + ")", x.groove(0, m), path[m]);
        }
    }

    /** "it goes round until KICK (1 to 60 ..) minutes of that play are over". */
    private static void roundUntilKick() {
        for (int kick = 1; kick <= 60; kick++) {
            ThirdFavour x = ofLong(4);
            x.scratch(0, 3, 2);
            x.set(0, kick);
            CHECK.due("plays, KICK " + kick, x.plays(0), kick);
            for (int m = 0; m <= 59; m++) {
                int due = m >= kick ? -1 : m < 2 ? m : 2 + m % 2;
                CHECK.due("groove(0, " + m + "), KICK " + kick, x.groove(0, m), due);
            }
        }
    }

    /** "if it LOOPS, KICK, also if that is less than it has gone through by then". */
    private static void kickLessThanGoneThrough() {
        for (int kick = 1; kick <= 10; kick++) {
            ThirdFavour x = ofLong(9);
            x.scratch(0, 8, 0);
            x.set(0, kick);
            CHECK.due("plays, KICK " + kick, x.plays(0), kick);
            CHECK.due("it LOOPS all the same", x.loops(0), 1);
            CHECK.due("in its last minute", x.groove(0, kick - 1), (kick - 1) % 9);
            CHECK.due("then it has played", x.groove(0, kick), -1);
        }
    }

    /** "if it does not, KICK does not matter". */
    private static void kickDoesNotMatter() {
        ThirdFavour x = ofLong(9);
        for (int kick : new int[] {1, 8, 9, 60}) {
            x.set(0, kick);
            CHECK.due("plays, KICK " + kick, x.plays(0), 9);
            CHECK.due("groove(0, 8), KICK " + kick, x.groove(0, 8), 8);
            CHECK.due("groove(0, 9), KICK " + kick, x.groove(0, 9), -1);
        }
    }

    /** "From a groove (0 to 8) .. the arm goes to a told one (0 to 9), or on (NONE): where it went (NONE: on)". */
    private static void fromAGrooveOrOn() {
        for (int groove = 0; groove <= 8; groove++) {
            ThirdFavour x = ofLong(9);
            CHECK.due("on at first", x.scratch(0, groove, 9), -1);
            CHECK.due("it has played there", x.plays(0), groove + 1);
            CHECK.due("to 9 it went", x.scratch(0, groove, 0), 9);
            CHECK.due("to 0 it goes", x.groove(0, groove + 1), 0);
            CHECK.due("to 0 it went", x.scratch(0, groove, -1), 0);
            CHECK.due("on it goes", x.plays(0), 9);
            CHECK.due("on it went", x.scratch(0, groove, -1), -1);
        }
    }

    /** "BAD (minute 0 to 59)": minute 59 is one of a play of 60. */
    private static void grooveOfTheLastMinute() {
        ThirdFavour x = ofLong(1);
        x.scratch(0, 0, 0);
        x.set(0, 60);
        CHECK.due("groove(0, 59), KICK 60", x.groove(0, 59), 0);
        CHECK.due("groove(0, 60), KICK 60", x.groove(0, 60), -2);
        x.set(0, 59);
        CHECK.due("groove(0, 59), KICK 59", x.groove(0, 59), -1);
        CHECK.due("groove(0, 58), KICK 59", x.groove(0, 58), 0);
    }

    /** "the fewest scratches of a RECORD (in its grooves)": those behind LONG are none of them. */
    private static void inItsGrooves() {
        for (int grooves = 1; grooves <= 9; grooves++) {
            ThirdFavour x = new ThirdFavour();
            for (int g = 0; g <= 8; g++) {
                x.scratch(0, g, g);
            }
            x.record(0, grooves);
            CHECK.due("wax(0, 0) of LONG " + grooves, x.wax(0, 0), grooves);
            CHECK.due("wax(0, 1) of LONG " + grooves, x.wax(0, 1), (1 << grooves) - 1);
            if (grooves < 9) {
                ThirdFavour y = ofLong(grooves);
                y.scratch(0, grooves, 0);
                CHECK.due("just behind it: loops", y.loops(0), 0);
                CHECK.due("just behind it: wax(0, 1)", y.wax(0, 1), 0);
                y.record(0, grooves + 1);
                CHECK.due("just in it: loops", y.loops(0), 1);
                CHECK.due("just in it: wax(0, 1)", y.wax(0, 1), 1 << grooves);
            }
        }
    }

    /** "of like ones the least grooves as bits". */
    private static void ofLikeOnesTheLeast() {
        ThirdFavour x = ofLong(3);
        x.scratch(0, 0, 2);
        x.scratch(0, 1, 9);
        x.scratch(0, 2, 0);
        CHECK.due("groove 0 or 2 would do", x.wax(0, 0), 1);
        CHECK.due("groove 0", x.wax(0, 1), 1);
        x.scratch(0, 1, 1);
        CHECK.due("groove 2 alone would do", x.wax(0, 1), 4);
        ThirdFavour y = ofLong(9);
        y.scratch(0, 7, 8);
        y.scratch(0, 8, 0);
        CHECK.due("7 waxed leads to 8 all the same", y.wax(0, 1), 256);
        y.scratch(0, 6, 8);
        y.scratch(0, 7, 9);
        CHECK.due("6 or 8: 64 is less than 256", y.wax(0, 1), 64);
    }

    /** WAX of none, and of one that does not LOOP though it is SCRATCHED all over. */
    private static void allAndNoneWaxed() {
        ThirdFavour x = ofLong(9);
        CHECK.due("no scratch", x.wax(0, 0), 0);
        CHECK.due("no scratch, as bits", x.wax(0, 1), 0);
        for (int g = 0; g <= 8; g++) {
            x.scratch(0, g, g + 1);
        }
        CHECK.due("nine that lead on: does not LOOP", x.loops(0), 0);
        CHECK.due("none is to be waxed", x.wax(0, 0), 0);
        for (int g = 0; g <= 8; g++) {
            x.scratch(0, g, 0);
        }
        CHECK.due("all lead to the first", x.wax(0, 0), 9);
        CHECK.due("all, as bits", x.wax(0, 1), 511);
        x.scratch(0, 8, -1);
        CHECK.due("all but the last", x.wax(0, 0), 8);
        CHECK.due("all but the last, as bits", x.wax(0, 1), 255);
    }

    private static void laid(ThirdFavour x, int form, int... items) {
        x.sheet(0, form, items.length);
        for (int i = 0; i < items.length; i++) {
            x.lay(0, form, i, items[i]);
        }
    }

    /** "item by item, as long as each may be": 1 and 9 may be, 0 and 10 may not; what is behind is not read. */
    private static void readAsLongAsEachMayBe() {
        int[] wrong = {0, 10, -1, 127, -128};
        for (int form = 0; form <= 2; form++) {
            for (int w : wrong) {
                ThirdFavour x = new ThirdFavour();
                laid(x, form, 1, 9, w, 5);
                CHECK.due("read with " + w + " as the third", x.read(0), 2);
                CHECK.due("the first", x.record(0, 3), 1);
                CHECK.due("the second", x.record(1, 3), 9);
                CHECK.due("the third is as it was", x.record(2, 3), 3);
                CHECK.due("the fourth is as it was", x.record(3, 3), 3);
                laid(x, form, w, 5);
                CHECK.due("read with " + w + " as the first", x.read(0), 0);
                CHECK.due("nothing is read", x.count(2), 30);
            }
        }
        ThirdFavour x = new ThirdFavour();
        laid(x, 2);
        CHECK.due("read of no items", x.read(0), 0);
        CHECK.due("it is no FINDING", x.count(8), 0);
    }

    /** "ten at most", and as many as there are items. */
    private static void readTenAtMost() {
        for (int n : new int[] {1, 9, 10, 11, 60}) {
            ThirdFavour x = new ThirdFavour();
            int[] items = new int[n];
            for (int i = 0; i < n; i++) {
                items[i] = 7;
            }
            laid(x, 1, items);
            CHECK.due("read of " + n, x.read(0), Math.min(n, 10));
            CHECK.due("LONG 7 each", x.count(2), 30 + 4 * Math.min(n, 10));
        }
        ThirdFavour x = new ThirdFavour();
        laid(x, 0, 1, 1, 1, 1, 1, 1, 1, 1, 1, 1, 0);
        CHECK.due("an eleventh that may not be", x.read(0), 10);
    }

    /** What counts is the item as it is cut, not what was laid. */
    private static void readCutItems() {
        int[] due = {1, 0, 0};
        for (int form = 0; form <= 2; form++) {
            ThirdFavour x = new ThirdFavour();
            laid(x, form, 256 + 9);
            CHECK.due("265 as of FORM " + form, x.read(0), due[form]);
        }
        ThirdFavour x = new ThirdFavour();
        laid(x, 1, 65536 + 9);
        CHECK.due("65545 as a short", x.read(0), 1);
        CHECK.due("it is 9", x.plays(0), 9);
    }

    /** "2 all LONG, 3 scratches", the least and the most. */
    private static void allLongAndAllScratches() {
        ThirdFavour x = new ThirdFavour();
        for (int r = 0; r <= 9; r++) {
            x.record(r, 1);
        }
        CHECK.due("least LONG", x.count(2), 10);
        for (int r = 0; r <= 9; r++) {
            x.record(r, 9);
            for (int g = 0; g <= 8; g++) {
                x.scratch(r, g, 9 - g);
            }
        }
        CHECK.due("most LONG", x.count(2), 90);
        CHECK.due("all scratches", x.count(3), 90);
        x.scratch(0, 0, -1);
        x.scratch(9, 8, -1);
        CHECK.due("two fewer", x.count(3), 88);
        x.scratch(0, 0, -1);
        CHECK.due("one that was none is none", x.count(3), 88);
        x.scratch(5, 5, 0);
        CHECK.due("one led elsewhere is one", x.count(3), 88);
    }
}
