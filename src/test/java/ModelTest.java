import java.util.Random;

/** Fixed random runs of calls, each answer held against the model's. */
public final class ModelTest {
    /** How many values from 0 on each argument has, where it is well told. */
    private static final int[][] RANGES = {{10, 10}, {10, 9, 10}, {256}, {}, {}, {}, {4, 100}, {4}, {10}, {10, 60},
        {10}, {10, 2}, {20, 2}, {200}, {20, 3}, {4, 3}, {}, {10}, {}, {100, 10, 200, 3}, {20, 10}, {200, 10}, {}, {},
        {10, 2}, {10}, {4, 3, 61}, {4}, {4, 3, 60, 300}, {4, 3, 60}, {4, 60, 4, 60, 60}, {4}, {9}, {}};
    /** How often a call comes, as against the others. */
    private static final int[] WEIGHTS = {6, 14, 2, 1, 2, 4, 8, 3, 3, 4, 2, 3, 2, 6, 8, 5, 3, 3, 3, 8, 5, 6, 1, 5, 3, 3,
        5, 1, 12, 6, 6, 3, 5, 2};
    private static final int CALLS = 34, TYPE = 2, LAY = 28, ASK = 19, HEARD = 21;

    private final Check check = new Check("model");
    private final Random random = new Random(20261119);
    private final int[] came = new int[CALLS];

    public static void main(String[] args) {
        new ModelTest().runAll(args.length == 0 ? 600 : Integer.parseInt(args[0]));
    }

    private void runAll(int runs) {
        for (int run = 0; run < runs; run++) {
            oneRun(run);
        }
        for (int call = 0; call < CALLS; call++) {
            check.holds(Calls.NAMES[call] + " came", came[call] > runs / 6);
        }
        check.end();
    }

    private void oneRun(int run) {
        ThirdFavour x = new ThirdFavour();
        Model m = new Model();
        int calls = 0;
        int span = 1 + random.nextInt(8);
        while (calls < 400) {
            if (random.nextInt(10) == 0) {
                calls += typeCoins(run, x, m, span);
            } else {
                int call = drawCall();
                compare(run, x, m, call, draw(call, m));
                calls++;
            }
        }
        compare(run, x, m, 33, new int[5]);
    }

    private int drawCall() {
        int sum = 0;
        for (int w : WEIGHTS) {
            sum += w;
        }
        int at = random.nextInt(sum);
        int call = 0;
        while (at >= WEIGHTS[call]) {
            at -= WEIGHTS[call];
            call++;
        }
        return call;
    }

    /** From an empty text or behind the coins that there are, a few coins: mostly well told. */
    private int typeCoins(int run, ThirdFavour x, Model m, int span) {
        int typed = 0;
        if (random.nextInt(3) == 0 || m.faultOf() != -1) {
            compare(run, x, m, 3, new int[5]);
        }
        java.util.List<Model.Asked> coins = m.coins();
        int minute = coins.isEmpty() ? random.nextInt(span * 2) : coins.get(coins.size() - 1).minute;
        int buttons = 1 + random.nextInt(10);
        int more = 1 + random.nextInt(random.nextInt(3) == 0 ? 20 : 6);
        for (int i = 0; i < more; i++) {
            minute = Math.min(minute + random.nextInt(span), 99);
            int shown = random.nextInt(80) == 0 ? random.nextInt(100) : minute;
            String coin = (i == 0 && coins.isEmpty() ? "" : ";") + shown / 10 + shown % 10 + random.nextInt(buttons);
            for (char c : coin.toCharArray()) {
                int b = random.nextInt(600) == 0 ? random.nextInt(256) : c;
                compare(run, x, m, TYPE, new int[] {b, 0, 0, 0, 0});
                typed++;
            }
        }
        return typed;
    }

    private int[] draw(int call, Model m) {
        int[] a = new int[5];
        int[] ranges = RANGES[call];
        for (int i = 0; i < ranges.length; i++) {
            int kind = random.nextInt(40);
            if (kind == 0) {
                a[i] = new int[] {Integer.MIN_VALUE, Integer.MAX_VALUE, -2, -1}[random.nextInt(4)];
            } else if (kind == 1) {
                a[i] = ranges[i];
            } else if (kind < 12) {
                a[i] = random.nextInt(Math.min(ranges[i], 5)) - (random.nextInt(6) == 0 ? 1 : 0);
            } else {
                a[i] = random.nextInt(ranges[i]);
            }
        }
        if (call == LAY && random.nextBoolean()) {
            a[3] = random.nextInt(3) == 0 ? random.nextInt() : 1 + random.nextInt(9);
        }
        if (call == 1 && random.nextInt(3) == 0) {
            a[2] = -1;
        }
        if (call == ASK && random.nextInt(4) > 0) {
            near(a, m);
        }
        if (call == HEARD && random.nextBoolean()) {
            a[0] = random.nextInt(40);
            a[1] = random.nextInt(3) - 1;
        }
        if (call == 6 && a[0] == 1 && random.nextInt(3) > 0) {
            a[1] = random.nextInt(4);
        }
        if (call == 6 && a[0] == 2 && random.nextInt(3) > 0) {
            a[1] = 1 + random.nextInt(4);
        }
        return a;
    }

    /** A minute at or behind the last coin, and an hour not long behind it. */
    private void near(int[] a, Model m) {
        java.util.List<Model.Asked> coins = m.coins();
        int last = coins.isEmpty() ? 0 : coins.get(coins.size() - 1).minute;
        a[0] = Math.min(last + random.nextInt(4), 99);
        a[2] = Math.min(a[0] + random.nextInt(40), 199);
    }

    private void compare(int run, ThirdFavour x, Model m, int call, int[] a) {
        came[call]++;
        long due = m.answer(call, a);
        check.due("run " + run + ": " + Calls.told(call, a), Calls.answer(x, call, a), due);
    }
}
