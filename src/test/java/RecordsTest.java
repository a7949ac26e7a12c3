/** Promises 1, 2, 3, 10 to 13: a new object, and records by themselves. */
public final class RecordsTest {
    private static final Check CHECK = new Check("records");

    public static void main(String[] args) {
        newObject();
        record();
        scratch();
        plays();
        groove();
        loops();
        wax();
        waxOfSeveral();
        CHECK.end();
    }

    private static void newObject() {
        ThirdFavour x = new ThirdFavour();
        CHECK.due("new count(0)", x.count(0), 0);
        CHECK.due("new count(1)", x.count(1), 0);
        CHECK.due("new count(2)", x.count(2), 30);
        CHECK.due("new count(3)", x.count(3), 0);
        CHECK.due("new count(4)", x.count(4), 0);
        CHECK.due("new count(5)", x.count(5), 0);
        CHECK.due("new count(6)", x.count(6), 1);
        CHECK.due("new count(7)", x.count(7), 20);
        CHECK.due("new count(8)", x.count(8), 0);
        CHECK.due("new fault()", x.fault(), -1);
        CHECK.due("new set(2, 99)", x.set(2, 99), 99);
        CHECK.due("new set(3, 15)", x.set(3, 15), 15);
        for (int s = 0; s < 4; s++) {
            CHECK.due("new lose(" + s + ")", x.lose(s), -11);
        }
        for (int r = 0; r < 10; r++) {
            CHECK.due("new plays(" + r + ")", x.plays(r), 3);
            CHECK.due("new record(" + r + ", 3)", x.record(r, 3), 3);
        }
    }

    private static void record() {
        ThirdFavour x = new ThirdFavour();
        CHECK.due("record(0, 1)", x.record(0, 1), 3);
        CHECK.due("record(0, 9)", x.record(0, 9), 1);
        CHECK.due("record(9, 9)", x.record(9, 9), 3);
        CHECK.due("record(0, 9) again", x.record(0, 9), 9);
        CHECK.due("record(-1, 3)", x.record(-1, 3), -2);
        CHECK.due("record(10, 3)", x.record(10, 3), -2);
        CHECK.due("record(0, 0)", x.record(0, 0), -2);
        CHECK.due("record(0, 10)", x.record(0, 10), -2);
        CHECK.due("record(least, 3)", x.record(Integer.MIN_VALUE, 3), -2);
        CHECK.due("record(0, most)", x.record(0, Integer.MAX_VALUE), -2);
        CHECK.due("all LONG", x.count(2), 9 + 9 + 8 * 3);
    }

    private static void scratch() {
        ThirdFavour x = new ThirdFavour();
        CHECK.due("scratch(0, 0, 0)", x.scratch(0, 0, 0), -1);
        CHECK.due("scratch(0, 0, 9)", x.scratch(0, 0, 9), 0);
        CHECK.due("scratch(0, 0, -1)", x.scratch(0, 0, -1), 9);
        CHECK.due("scratch(0, 0, -1) again", x.scratch(0, 0, -1), -1);
        CHECK.due("scratch(9, 8, 1), behind its grooves", x.scratch(9, 8, 1), -1);
        CHECK.due("scratches count there, too", x.count(3), 1);
        CHECK.due("it is not come to", x.plays(9), 3);
        x.record(9, 9);
        CHECK.due("then it is", x.loops(9), 1);
        CHECK.due("scratch(0, 9, 0)", x.scratch(0, 9, 0), -2);
        CHECK.due("scratch(0, -1, 0)", x.scratch(0, -1, 0), -2);
        CHECK.due("scratch(0, 0, 10)", x.scratch(0, 0, 10), -2);
        CHECK.due("scratch(0, 0, -2)", x.scratch(0, 0, -2), -2);
        CHECK.due("scratch(-1, 0, 0)", x.scratch(-1, 0, 0), -2);
        CHECK.due("scratch(10, 0, 0)", x.scratch(10, 0, 0), -2);
        CHECK.due("refusals scratch nothing", x.count(3), 1);
    }

    private static void plays() {
        ThirdFavour x = new ThirdFavour();
        for (int v = 1; v <= 9; v++) {
            x.record(3, v);
            CHECK.due("plays(3) of LONG " + v, x.plays(3), v);
        }
        x.scratch(3, 0, 9);
        CHECK.due("a groove that is not of it: it has played", x.plays(3), 1);
        x.record(3, 5);
        x.scratch(3, 0, 4);
        CHECK.due("the arm skips ahead", x.plays(3), 2);
        x.scratch(3, 0, 5);
        CHECK.due("just behind the last", x.plays(3), 1);
        x.scratch(3, 0, -1);
        x.scratch(3, 4, 2);
        CHECK.due("it loops: KICK", x.plays(3), 20);
        x.set(0, 60);
        CHECK.due("KICK 60", x.plays(3), 60);
        x.set(0, 1);
        CHECK.due("KICK 1, less than it has gone through", x.plays(3), 1);
        CHECK.due("KICK does not matter to the others", x.plays(4), 3);
        CHECK.due("plays(-1)", x.plays(-1), -2);
        CHECK.due("plays(10)", x.plays(10), -2);
    }

    private static void groove() {
        ThirdFavour x = new ThirdFavour();
        x.record(2, 6);
        x.scratch(2, 1, 4);
        x.scratch(2, 4, 0);
        x.set(0, 8);
        x.scratch(3, 0, 2);
        CHECK.due("the arm skips: groove(3, 1)", x.groove(3, 1), 2);
        CHECK.due("it has played: groove(3, 2)", x.groove(3, 2), -1);
        int[] path = {0, 1, 4, 0, 1, 4, 0, 1, -1, -1};
        for (int m = 0; m < path.length; m++) {
            CHECK.due("groove(2, " + m + ")", x.groove(2, m), path[m]);
        }
        x.set(0, 60);
        CHECK.due("groove(2, 59)", x.groove(2, 59), path[59 % 3]);
        CHECK.due("groove(2, 60)", x.groove(2, 60), -2);
        CHECK.due("groove(2, -1)", x.groove(2, -1), -2);
        CHECK.due("groove(10, 0)", x.groove(10, 0), -2);
        CHECK.due("groove(-1, 0)", x.groove(-1, 0), -2);
        CHECK.due("groove(0, 2)", x.groove(0, 2), 2);
        CHECK.due("groove(0, 3)", x.groove(0, 3), -1);
        CHECK.due("groove(0, 59)", x.groove(0, 59), -1);
        x.set(0, 1);
        CHECK.due("one that does not loop is not kicked", x.groove(0, 2), 2);
    }

    private static void loops() {
        ThirdFavour x = new ThirdFavour();
        CHECK.due("loops(0)", x.loops(0), 0);
        x.scratch(0, 2, 0);
        CHECK.due("from the last groove to the first", x.loops(0), 1);
        x.scratch(0, 0, 3);
        CHECK.due("a loop that is not come to", x.loops(0), 0);
        x.scratch(1, 0, 0);
        CHECK.due("a groove that leads to itself", x.loops(1), 1);
        x.record(2, 9);
        x.scratch(2, 8, 8);
        CHECK.due("the last of nine leads to itself", x.loops(2), 1);
        x.scratch(2, 8, 9);
        CHECK.due("the last of nine leads behind", x.loops(2), 0);
        x.record(3, 9);
        x.scratch(3, 0, 8);
        x.scratch(3, 8, 1);
        CHECK.due("back, but to a groove it was not in", x.plays(3), 20);
        x.scratch(3, 7, 9);
        CHECK.due("all nine in another order", x.plays(3), 9);
        CHECK.due("so it does not loop", x.loops(3), 0);
        CHECK.due("loops(10)", x.loops(10), -2);
        CHECK.due("loops(-1)", x.loops(-1), -2);
    }

    private static void wax() {
        ThirdFavour x = new ThirdFavour();
        CHECK.due("nothing loops: wax(0, 0)", x.wax(0, 0), 0);
        CHECK.due("nothing loops: wax(0, 1)", x.wax(0, 1), 0);
        x.scratch(0, 1, 0);
        CHECK.due("wax(0, 0)", x.wax(0, 0), 1);
        CHECK.due("wax(0, 1)", x.wax(0, 1), 2);
        CHECK.due("wax takes nothing away", x.loops(0), 1);
        x.scratch(1, 0, 2);
        CHECK.due("a scratch that does no harm stays", x.wax(1, 1), 0);
        x.scratch(2, 0, 1);
        x.scratch(2, 2, 0);
        CHECK.due("so does one beside one that does", x.wax(2, 1), 4);
        CHECK.due("wax(0, 2)", x.wax(0, 2), -2);
        CHECK.due("wax(0, -1)", x.wax(0, -1), -2);
        CHECK.due("wax(10, 0)", x.wax(10, 0), -2);
        CHECK.due("wax(-1, 0)", x.wax(-1, 0), -2);
    }

    private static void waxOfSeveral() {
        ThirdFavour x = new ThirdFavour();
        x.record(1, 9);
        x.scratch(1, 2, 5);
        x.scratch(1, 6, 1);
        CHECK.due("2 waxed: 6 leads back all the same; so 6", x.wax(1, 1), 1 << 6);
        x.scratch(1, 3, 9);
        CHECK.due("2 waxed: 3 leads out", x.wax(1, 1), 1 << 2);
        CHECK.due("one is enough", x.wax(1, 0), 1);
        x.scratch(1, 3, 0);
        CHECK.due("2 waxed: 3 leads round; so 6", x.wax(1, 1), 1 << 6);
        x.scratch(1, 8, 8);
        CHECK.due("two are needed", x.wax(1, 0), 2);
        CHECK.due("which two", x.wax(1, 1), 1 << 6 | 1 << 8);
        x.scratch(1, 4, 4);
        x.scratch(1, 5, 5);
        x.scratch(1, 7, 9);
        CHECK.due("least bits of like ones", x.wax(1, 1), 1 << 5 | 1 << 6);
        for (int g = 0; g < 9; g++) {
            x.scratch(5, g, g);
        }
        x.record(5, 9);
        CHECK.due("all nine", x.wax(5, 0), 9);
        CHECK.due("all nine as bits", x.wax(5, 1), 511);
        x.record(5, 4);
        CHECK.due("those in its grooves", x.wax(5, 1), 15);
    }
}
