/** Promises 21 and 22: coins more, and a coin that is stuck. */
public final class AskingTest {
    private static final Check CHECK = new Check("asking");

    public static void main(String[] args) {
        none();
        one();
        two();
        bad();
        full();
        byMostAsked();
        byTwoAhead();
        stuck();
        CHECK.end();
    }

    private static void rowIs(ThirdFavour x, int minute, int record, int hour, int number, int one, int two) {
        String call = "ask(" + minute + ", " + record + ", " + hour + ", ";
        CHECK.due(call + "0)", x.ask(minute, record, hour, 0), number);
        CHECK.due(call + "1)", x.ask(minute, record, hour, 1), one);
        CHECK.due(call + "2)", x.ask(minute, record, hour, 2), two);
    }

    private static ThirdFavour by(int law, String text) {
        ThirdFavour x = Check.with(text);
        x.set(1, law);
        return x;
    }

    private static void none() {
        ThirdFavour x = by(0, "104");
        rowIs(x, 10, 4, 12, 0, -1, -1);
        rowIs(x, 10, 4, 13, 1, 4, -1);
        CHECK.due("ask puts no coin in", x.count(0), 1);
    }

    private static void one() {
        ThirdFavour x = by(0, "104");
        rowIs(x, 20, 7, 22, 1, 7, -1);
        rowIs(x, 12, 7, 13, 1, 7, -1);
        rowIs(x, 12, 7, 15, 1, 7, -1);
        rowIs(x, 20, 7, 19, -1, -1, -1);
        rowIs(x, 99, 0, 99, 1, 0, -1);
        rowIs(by(0, ""), 0, 0, 0, 1, 0, -1);
    }

    private static void two() {
        ThirdFavour x = by(0, "104");
        rowIs(x, 20, 7, 23, 2, 0, 7);
        rowIs(x, 20, 7, 25, 2, 0, 7);
        rowIs(x, 20, 7, 26, -1, -1, -1);
        x.record(0, 1);
        rowIs(x, 20, 7, 21, 1, 7, -1);
        rowIs(x, 20, 7, 23, 2, 0, 7);
        rowIs(x, 20, 7, 24, 2, 1, 7);
        x.set(2, 1);
        rowIs(x, 20, 4, 20, -1, -1, -1);
        ThirdFavour late = by(3, "104");
        rowIs(late, 20, 7, 23, 2, 7, 0);
        rowIs(late, 10, 4, 13, 1, 0, -1);
    }

    private static void bad() {
        ThirdFavour x = by(0, "104");
        CHECK.due("ask(9, ..): ahead of the last COIN", x.ask(9, 0, 50, 0), -2);
        CHECK.due("ask(10, ..)", x.ask(10, 0, 13, 0), 1);
        CHECK.due("ask(-1, ..)", x.ask(-1, 0, 50, 0), -2);
        CHECK.due("ask(100, ..)", x.ask(100, 0, 100, 0), -2);
        CHECK.due("record 10", x.ask(10, 10, 50, 0), -2);
        CHECK.due("record NONE", x.ask(10, -1, 50, 0), -2);
        CHECK.due("hour 200", x.ask(10, 0, 200, 0), -2);
        CHECK.due("hour -1", x.ask(10, 0, -1, 0), -2);
        CHECK.due("hour 199", x.ask(10, 0, 199, 0), -1);
        CHECK.due("what 3", x.ask(10, 0, 50, 3), -2);
        CHECK.due("what -1", x.ask(10, 0, 50, -1), -2);
        x.type(';');
        CHECK.due("with a FAULT no COIN is ahead", x.ask(0, 0, 0, 0), 1);
    }

    private static String ones(int number) {
        StringBuilder text = new StringBuilder();
        for (int i = 0; i < number; i++) {
            text.append(i == 0 ? "" : ";").append("001");
        }
        return text.toString();
    }

    private static void full() {
        ThirdFavour x = by(0, ones(20));
        rowIs(x, 0, 1, 59, 0, -1, -1);
        rowIs(x, 0, 1, 60, -4, -4, -4);
        CHECK.due("BAD ahead of FULL", x.ask(0, 1, 60, 3), -2);
        x = by(0, ones(19));
        rowIs(x, 0, 2, 56, -4, -4, -4);
        rowIs(x, 0, 2, 57, 1, 2, -1);
        rowIs(x, 0, 2, 59, 1, 2, -1);
        rowIs(x, 0, 2, 60, -4, -4, -4);
        x = by(0, ones(18));
        rowIs(x, 0, 2, 59, 2, 0, 2);
        rowIs(x, 0, 2, 60, -1, -1, -1);
    }

    private static void byMostAsked() {
        ThirdFavour x = by(2, "001;001;012;013");
        rowIs(x, 2, 3, 3, 1, 3, -1);
        rowIs(x, 2, 4, 3, 2, 4, 4);
        rowIs(x, 2, 2, 3, 1, 2, -1);
    }

    private static void byTwoAhead() {
        ThirdFavour x = by(1, "005;006");
        rowIs(x, 30, 5, 30, 1, 0, -1);
        rowIs(x, 30, 6, 30, -1, -1, -1);
        rowIs(x, 30, 6, 33, 2, 0, 0);
        rowIs(x, 30, 7, 33, -1, -1, -1);
    }

    private static void stuck() {
        ThirdFavour x = by(1, "001;002;003;004");
        CHECK.due("times(1) by law 1", x.times(1), 1);
        CHECK.due("stuck(0, 1)", x.stuck(0, 1), 0);
        CHECK.due("stuck(0, 2)", x.stuck(0, 2), 1);
        CHECK.due("stuck(1, 1)", x.stuck(1, 1), 1);
        CHECK.due("stuck(1, 2)", x.stuck(1, 2), 0);
        CHECK.due("stuck(1, 3)", x.stuck(1, 3), 0);
        CHECK.due("stuck(3, 1)", x.stuck(3, 1), 1);
        CHECK.due("stuck(3, 2)", x.stuck(3, 2), 0);
        CHECK.due("pleased", x.night(1, 1), 2);
        CHECK.due("stuck(3, NONE)", x.stuck(3, -1), 1);
        CHECK.due("none is taken away", x.count(0), 4);
        ThirdFavour w = by(0, "001;002;003;004");
        for (int gone = 0; gone < 4; gone++) {
            for (int record = 1; record < 5; record++) {
                CHECK.due("law 0 stuck(" + gone + ", " + record + ")", w.stuck(gone, record), gone == record - 1 ? 0 : 1);
            }
        }
        CHECK.due("stuck(4, 0)", x.stuck(4, 0), -2);
        CHECK.due("stuck(-1, 0)", x.stuck(-1, 0), -2);
        CHECK.due("stuck(0, 10)", x.stuck(0, 10), -2);
        CHECK.due("stuck(0, -2)", x.stuck(0, -2), -2);
        ThirdFavour y = by(0, "001;002;003");
        y.set(3, 3);
        CHECK.due("pleased", y.night(0, 1), 2);
        CHECK.due("stuck(2, NONE)", y.stuck(2, -1), 2);
        y.set(3, 2);
        CHECK.due("PATIENCE 2: stuck(0, NONE)", y.stuck(0, -1), 1);
        y.record(1, 9);
        y.set(3, 5);
        CHECK.due("who waited behind it is pleased", y.stuck(0, -1), 2);
        CHECK.due("who waited behind it was not", y.night(0, 1), 1);
        y.set(2, 1);
        ThirdFavour z = by(0, "001;001;001");
        z.set(2, 2);
        CHECK.due("LIFE counts anew", z.stuck(0, 1), 2);
        CHECK.due("a last one", by(0, "001").stuck(0, -1), 0);
    }
}
