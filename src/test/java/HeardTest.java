/** Promises 23 to 27: what was heard, which law it was, which button is next. */
public final class HeardTest {
    private static final Check CHECK = new Check("heard");
    private static final long BAD = Long.MIN_VALUE + 2;

    public static void main(String[] args) {
        heardAndForget();
        laws();
        next();
        since();
        CHECK.end();
    }

    private static void heardAndForget() {
        ThirdFavour x = new ThirdFavour();
        CHECK.due("forget() of nothing", x.forget(), 0);
        CHECK.due("heard(0, -1)", x.heard(0, -1), 1);
        CHECK.due("heard(199, 9)", x.heard(199, 9), 2);
        CHECK.due("heard(200, 0)", x.heard(200, 0), -2);
        CHECK.due("heard(-1, 0)", x.heard(-1, 0), -2);
        CHECK.due("heard(0, 10)", x.heard(0, 10), -2);
        CHECK.due("heard(0, -2)", x.heard(0, -2), -2);
        CHECK.due("HEARD", x.count(5), 2);
        for (int i = 3; i <= 8; i++) {
            CHECK.due("heard as number " + i, x.heard(i, 0), i);
        }
        CHECK.due("a ninth", x.heard(9, 0), -4);
        CHECK.due("BAD ahead of FULL", x.heard(9, 10), -2);
        CHECK.due("HEARD", x.count(5), 8);
        CHECK.due("forget()", x.forget(), 8);
        CHECK.due("HEARD", x.count(5), 0);
        CHECK.due("heard from anew", x.heard(9, 0), 1);
    }

    private static void laws() {
        ThirdFavour x = Check.with("001;002;013;013");
        CHECK.due("nothing heard: all", x.laws(), 15);
        x.heard(0, 1);
        CHECK.due("first a 1: the first or the most", x.laws(), 1 | 4);
        x.heard(3, 2);
        CHECK.due("then a 2: not the most", x.laws(), 1);
        x.forget();
        x.heard(0, 2);
        CHECK.due("first a 2: the latest", x.laws(), 8);
        x.forget();
        x.heard(0, -1);
        CHECK.due("first nothing: two coins ahead", x.laws(), 2);
        x.forget();
        x.heard(1, 1);
        x.heard(5, -1);
        CHECK.due("none fits all", x.laws(), 0);
        x.forget();
        x.heard(8, -1);
        CHECK.due("nothing in minute 8: law 1", x.laws(), 2);
        x.set(1, 3);
        CHECK.due("the LAW as it is does not matter", x.laws(), 2);
    }

    private static void fraction(ThirdFavour x, int button, long above, long below) {
        CHECK.due("next(" + button + ", 0)", x.next(button, 0), above);
        CHECK.due("next(" + button + ", 1)", x.next(button, 1), below);
    }

    private static void next() {
        ThirdFavour x = new ThirdFavour();
        fraction(x, 0, 1, 10);
        Check.typeAll(x, "001");
        fraction(x, 1, 2, 11);
        Check.typeAll(x, ";001");
        fraction(x, 1, 1, 4);
        fraction(x, 2, 1, 12);
        Check.typeAll(x, ";002;002;002");
        fraction(x, 2, 4, 15);
        fraction(x, 1, 1, 5);
        fraction(x, 9, 1, 15);
        CHECK.due("next(10, 0)", x.next(10, 0), BAD);
        CHECK.due("next(-1, 0)", x.next(-1, 0), BAD);
        CHECK.due("next(0, 2)", x.next(0, 2), BAD);
        CHECK.due("next(0, -1)", x.next(0, -1), BAD);
        x.type(';');
        fraction(x, 1, 1, 10);
    }

    private static void since() {
        ThirdFavour x = new ThirdFavour();
        CHECK.due("since(0) without COINS", x.since(0), 0);
        Check.typeAll(x, "003;004;003;005");
        CHECK.due("since(5)", x.since(5), 0);
        CHECK.due("since(3)", x.since(3), 1);
        CHECK.due("since(4)", x.since(4), 2);
        CHECK.due("since(0), never", x.since(0), 4);
        CHECK.due("since(8) when it was the first", Check.with("008;004;003").since(8), 2);
        CHECK.due("since(10)", x.since(10), -2);
        CHECK.due("since(-1)", x.since(-1), -2);
        x.undo();
        CHECK.due("since(3) after undo()", x.since(3), 0);
    }
}
