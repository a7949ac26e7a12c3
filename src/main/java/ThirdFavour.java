import java.util.Arrays;

/** A jukebox that plays what was asked two coins before, or by other laws. */
public final class ThirdFavour {
    public static final int NONE = -1, BAD = -2, NOT = -3, FULL = -4;

    private static final int RECORDS = 10;
    private static final int LAWS = 4;
    private static final int SHEETS = 4;
    private static final int MOST_COINS = 20;
    private static final int MOST_COINS_MORE = 2;
    private static final int MOST_HEARD = 8;
    private static final int NIGHT_MINUTES = 200;
    private static final int LAST_COIN_MINUTE = 99;
    private static final int LONGEST_PLAY = 60;
    private static final int NULL = 1, INDEX = 2, CAST = 3, STORE = 4, SIZE = 5;

    private final Disc[] discs = new Disc[RECORDS];
    private final Sheet[] sheets = new Sheet[SHEETS];
    private final Slip slip = new Slip();
    private final Night evening = new Night();
    private final int[] heardMinutes = new int[MOST_HEARD];
    private final int[] heardRecords = new int[MOST_HEARD];
    private int heardCount = 0;
    private int kick = 20;
    private int lawNow = 1;
    private int life = 99;
    private int patience = 15;
    private int latestFinding = 0;

    public ThirdFavour() {
        for (int i = 0; i < RECORDS; i++) {
            discs[i] = new Disc();
        }
        for (int i = 0; i < SHEETS; i++) {
            sheets[i] = new Sheet();
        }
    }

    // ---- records, coins, law

    public int record(int record, int v) {
        Disc disc = discOf(record);
        if (disc == null || !Disc.mayBeLong(v)) {
            return BAD;
        }
        int was = disc.longNow();
        disc.makeLong(v);
        return was;
    }

    public int scratch(int record, int groove, int to) {
        Disc disc = discOf(record);
        if (disc == null || !Disc.mayBeScratched(groove) || !Disc.mayLeadTo(to)) {
            return BAD;
        }
        int was = disc.skipFrom(groove);
        disc.skipTo(groove, to);
        return was;
    }

    public int type(int b) {
        if (!within(b, 0, 255)) {
            return BAD;
        }
        return slip.append(b) ? slip.bytesHeld() : FULL;
    }

    public int wipe() {
        int had = slip.bytesHeld();
        slip.clear();
        return had;
    }

    public int fault() {
        return slip.faultPlace();
    }

    public int undo() {
        if (slip.coins().isEmpty()) {
            return NOT;
        }
        slip.dropLastCoin();
        return slip.coins().number();
    }

    public int set(int what, int v) {
        switch (what) {
            case 0: return setKick(v);
            case 1: return setLaw(v);
            case 2: return setLife(v);
            case 3: return setPatience(v);
            default: return BAD;
        }
    }

    public int read(int s) {
        Sheet sheet = sheetOf(s);
        if (sheet == null) {
            return BAD;
        }
        if (sheet.isLost()) {
            return finding(NULL);
        }
        for (int i = 0; i < RECORDS; i++) {
            Disc disc = discs[i];
            if (disc == null || !sheet.holds(i) || !Disc.mayBeLong(sheet.item(i))) {
                return i;
            }
            disc.makeLong(sheet.item(i));
        }
        return RECORDS;
    }

    // ---- records

    public int plays(int record) {
        Disc disc = discOf(record);
        return disc == null ? BAD : disc.minutes(kick);
    }

    public int groove(int record, int minute) {
        Disc disc = discOf(record);
        if (disc == null || !within(minute, 0, LONGEST_PLAY - 1)) {
            return BAD;
        }
        return disc.grooveIn(minute, kick);
    }

    public int loops(int record) {
        Disc disc = discOf(record);
        if (disc == null) {
            return BAD;
        }
        return disc.goesRound() ? 1 : 0;
    }

    public int wax(int record, int what) {
        Disc disc = discOf(record);
        if (disc == null || !within(what, 0, 1)) {
            return BAD;
        }
        int waxed = disc.fewestWaxed();
        return what == 0 ? Integer.bitCount(waxed) : waxed;
    }

    // ---- nights

    public int coin(int coin, int what) {
        if (!slip.coins().has(coin) || !within(what, 0, 1)) {
            return BAD;
        }
        return what == 0 ? slip.coins().minuteOf(coin) : slip.coins().buttonOf(coin);
    }

    public int at(int minute) {
        if (!isNightMinute(minute)) {
            return BAD;
        }
        passNight(lawNow);
        return evening.playingIn(minute);
    }

    public int served(int coin, int what) {
        if (!slip.coins().has(coin) || !within(what, 0, 2)) {
            return BAD;
        }
        passNight(lawNow);
        switch (what) {
            case 0: return evening.chosenIn(coin);
            case 1: return evening.playedFor(coin);
            default: return evening.waitOf(coin);
        }
    }

    public int night(int law, int what) {
        if (!isLaw(law) || !within(what, 0, 2)) {
            return BAD;
        }
        passNight(law);
        switch (what) {
            case 0: return evening.silentMinutes();
            case 1: return evening.pleasedWithin(patience);
            default: return evening.endOfLastPlay();
        }
    }

    public int best() {
        int bestLaw = 0;
        int mostPleased = -1;
        for (int law = 0; law < LAWS; law++) {
            passNight(law);
            int pleased = evening.pleasedWithin(patience);
            if (pleased > mostPleased) {
                mostPleased = pleased;
                bestLaw = law;
            }
        }
        return bestLaw;
    }

    public int times(int record) {
        if (!isRecord(record)) {
            return BAD;
        }
        passNight(lawNow);
        return evening.playsOf(record);
    }

    public int first() {
        passNight(lawNow);
        return evening.firstWorn();
    }

    // ---- asking

    public int ask(int minute, int record, int hour, int what) {
        boolean told = within(minute, 0, LAST_COIN_MINUTE) && isRecord(record)
                && isNightMinute(hour) && within(what, 0, 2);
        if (!told || minute < slip.coins().lastMinute()) {
            return BAD;
        }
        return tellRow(fewestMore(minute, record, hour), what);
    }

    public int stuck(int coin, int record) {
        if (!slip.coins().has(coin) || record != NONE && !isRecord(record)) {
            return BAD;
        }
        measureDiscs();
        evening.coins().takeAll(slip.coins());
        evening.coins().remove(coin);
        evening.pass(lawNow, life);
        return record == NONE ? evening.pleasedWithin(patience) : evening.playsOf(record);
    }

    // ---- heard

    public int heard(int minute, int record) {
        if (!isNightMinute(minute) || record != NONE && !isRecord(record)) {
            return BAD;
        }
        if (heardCount < 0 || heardCount >= MOST_HEARD) {
            return FULL;
        }
        heardMinutes[heardCount] = minute;
        heardRecords[heardCount] = record;
        heardCount++;
        return heardCount;
    }

    public int forget() {
        int had = heardCount;
        heardCount = 0;
        return had;
    }

    public int laws() {
        int bits = 0;
        for (int law = 0; law < LAWS; law++) {
            passNight(law);
            if (soundsAsHeard()) {
                bits |= 1 << law;
            }
        }
        return bits;
    }

    public long next(int button, int what) {
        if (!isRecord(button) || !within(what, 0, 1)) {
            return Long.MIN_VALUE - BAD;
        }
        int above = slip.coins().askedFor(button) + 1;
        int below = slip.coins().number() + RECORDS;
        int divisor = commonDivisor(above, below);
        return (what == 0 ? above : below) / divisor;
    }

    public int since(int button) {
        return isRecord(button) ? slip.coins().numberSince(button) : BAD;
    }

    // ---- sheets

    public int sheet(int s, int form, int n) {
        Sheet sheet = sheetOf(s);
        if (sheet == null || !Sheet.isForm(form) || n > Sheet.MOST_ITEMS) {
            return BAD;
        }
        if (n < 0) {
            return finding(SIZE);
        }
        sheet.renew(form, n);
        return n;
    }

    public int lose(int s) {
        Sheet sheet = sheetOf(s);
        if (sheet == null) {
            return BAD;
        }
        if (sheet.isLost()) {
            return finding(NULL);
        }
        int had = sheet.number();
        sheet.becomeLost();
        return had;
    }

    public int lay(int s, int form, int i, int v) {
        int refusal = itemRefusal(s, form, i);
        Sheet sheet = sheetOf(s);
        if (refusal != 0 || sheet == null) {
            return refusal;
        }
        sheet.put(i, v);
        return 1;
    }

    public int get(int s, int form, int i) {
        int refusal = itemRefusal(s, form, i);
        Sheet sheet = sheetOf(s);
        return refusal != 0 || sheet == null ? Integer.MIN_VALUE : sheet.item(i);
    }

    public int copy(int s, int i, int t, int j, int n) {
        Sheet from = sheetOf(s);
        Sheet to = sheetOf(t);
        if (from == null || to == null) {
            return BAD;
        }
        if (from.isLost() || to.isLost()) {
            return finding(NULL);
        }
        if (from.formNow() != to.formNow()) {
            return finding(STORE);
        }
        if (!from.holdsRun(i, n) || !to.holdsRun(j, n)) {
            return finding(INDEX);
        }
        to.takeRun(from, i, j, n);
        return 1;
    }

    public int write(int s) {
        Sheet sheet = sheetOf(s);
        if (sheet == null) {
            return BAD;
        }
        if (sheet.isLost()) {
            return finding(NULL);
        }
        passNight(lawNow);
        int number = Math.min(sheet.number(), slip.coins().number());
        for (int i = 0; i < number; i++) {
            sheet.put(i, evening.playedFor(i));
        }
        return number;
    }

    public int count(int what) {
        switch (what) {
            case 0: return slip.coins().number();
            case 1: return slip.bytesHeld();
            case 2: return allLong();
            case 3: return allScratches();
            case 4: return allPlays();
            case 5: return heardCount;
            case 6: return lawNow;
            case 7: return kick;
            case 8: return latestFinding;
            default: return BAD;
        }
    }

    public long digest() {
        long h = 17;
        for (int what = 0; what <= 7; what++) {
            h = mixed(h, count(what));
        }
        h = mixed(h, fault());
        h = digestRecords(h);
        h = digestNights(h);
        h = mixed(h, at(5));
        h = mixed(h, at(30));
        h = mixed(h, best());
        h = mixed(h, first());
        int row = fewestMore(LAST_COIN_MINUTE, 1, 110);
        for (int what = 0; what <= 2; what++) {
            h = mixed(h, tellRow(row, what));
        }
        h = mixed(h, stuck(0, NONE));
        return mixed(h, laws());
    }

    // ---- what the calls share

    private static boolean within(int v, int least, int most) {
        return v >= least && v <= most;
    }

    private static boolean isRecord(int record) {
        return record >= 0 && record < RECORDS;
    }

    private static boolean isLaw(int law) {
        return within(law, 0, LAWS - 1);
    }

    private static boolean isNightMinute(int minute) {
        return within(minute, 0, NIGHT_MINUTES - 1);
    }

    private Disc discOf(int record) {
        return isRecord(record) ? discs[record] : null;
    }

    private Sheet sheetOf(int s) {
        return within(s, 0, SHEETS - 1) ? sheets[s] : null;
    }

    private int finding(int number) {
        latestFinding = number;
        return -10 - number;
    }

    private int setKick(int v) {
        if (!within(v, 1, LONGEST_PLAY)) {
            return BAD;
        }
        int was = kick;
        kick = v;
        return was;
    }

    private int setLaw(int v) {
        if (!isLaw(v)) {
            return BAD;
        }
        int was = lawNow;
        lawNow = v;
        return was;
    }

    private int setLife(int v) {
        if (!within(v, 1, 99)) {
            return BAD;
        }
        int was = life;
        life = v;
        return was;
    }

    private int setPatience(int v) {
        if (!within(v, 0, 99)) {
            return BAD;
        }
        int was = patience;
        patience = v;
        return was;
    }

    private void measureDiscs() {
        for (int i = 0; i < RECORDS; i++) {
            Disc disc = discs[i];
            if (disc != null) {
                evening.measure(i, disc.minutes(kick));
            }
        }
    }

    private void passNight(int law) {
        measureDiscs();
        evening.coins().takeAll(slip.coins());
        evening.pass(law, life);
    }

    /** As rowOf() packs it: the least row of the fewest coins; or FULL, NONE. */
    private int fewestMore(int minute, int record, int hour) {
        measureDiscs();
        int rows = 1;
        for (int more = 0; more <= MOST_COINS_MORE; more++) {
            if (slip.coins().number() + more > MOST_COINS) {
                return FULL;
            }
            for (int row = 0; row < rows; row++) {
                int one = more == 0 ? NONE : more == 1 ? row : row / RECORDS;
                int two = more < 2 ? NONE : row % RECORDS;
                passNightWith(minute, one, two);
                if (evening.playingIn(hour) == record) {
                    return rowOf(more, one, two);
                }
            }
            rows *= RECORDS;
        }
        return NONE;
    }

    private void passNightWith(int minute, int one, int two) {
        evening.coins().takeAll(slip.coins());
        if (one != NONE) {
            evening.coins().add(minute, one);
        }
        if (two != NONE) {
            evening.coins().add(minute, two);
        }
        evening.pass(lawNow, life);
    }

    private static int rowOf(int more, int one, int two) {
        return (more * 11 + one + 1) * 11 + two + 1;
    }

    private static int tellRow(int row, int what) {
        if (row < 0) {
            return row;
        }
        switch (what) {
            case 0: return row / 121;
            case 1: return row / 11 % 11 - 1;
            default: return row % 11 - 1;
        }
    }

    private boolean soundsAsHeard() {
        for (int i = 0; i < MOST_HEARD && i < heardCount; i++) {
            if (evening.playingIn(heardMinutes[i]) != heardRecords[i]) {
                return false;
            }
        }
        return true;
    }

    /** At least 1, so that it may divide. */
    private static int commonDivisor(int a, int b) {
        int greater = a;
        int less = b;
        for (int i = 0; i < 100 && less != 0; i++) {
            int rest = greater % less;
            greater = less;
            less = rest;
        }
        return Math.max(greater, 1);
    }

    /** 0: there is such an item. */
    private int itemRefusal(int s, int form, int i) {
        Sheet sheet = sheetOf(s);
        if (sheet == null || !Sheet.isForm(form)) {
            return BAD;
        }
        if (sheet.isLost()) {
            return finding(NULL);
        }
        if (sheet.formNow() != form) {
            return finding(CAST);
        }
        return sheet.holds(i) ? 0 : finding(INDEX);
    }

    private int allLong() {
        int sum = 0;
        for (int i = 0; i < RECORDS; i++) {
            Disc disc = discs[i];
            sum += disc == null ? 0 : disc.longNow();
        }
        return sum;
    }

    private int allScratches() {
        int sum = 0;
        for (int i = 0; i < RECORDS; i++) {
            Disc disc = discs[i];
            sum += disc == null ? 0 : disc.scratches();
        }
        return sum;
    }

    private int allPlays() {
        passNight(lawNow);
        return evening.allPlays();
    }

    private static long mixed(long h, long v) {
        return 31 * h + v;
    }

    private long digestRecords(long begun) {
        long h = begun;
        for (int i = 0; i < RECORDS; i++) {
            h = mixed(h, plays(i));
            h = mixed(h, loops(i));
            h = mixed(h, groove(i, 4));
            h = mixed(h, wax(i, 0));
            h = mixed(h, wax(i, 1));
            h = mixed(h, times(i));
            h = mixed(h, next(i, 0));
            h = mixed(h, next(i, 1));
            h = mixed(h, since(i));
        }
        return h;
    }

    private long digestNights(long begun) {
        long h = begun;
        int coins = slip.coins().number();
        for (int i = 0; i < coins; i++) {
            for (int what = 0; what <= 2; what++) {
                h = mixed(h, served(i, what));
            }
        }
        for (int law = 0; law < LAWS; law++) {
            for (int what = 0; what <= 2; what++) {
                h = mixed(h, night(law, what));
            }
        }
        return h;
    }

    /** A record: its grooves, and the scratches by which the arm skips. */
    private static final class Disc {
        private static final int MOST_GROOVES = 9;
        private static final int FARTHEST = 9;

        private int grooves = 3;
        private final int[] skips = new int[MOST_GROOVES];

        Disc() {
            Arrays.fill(skips, NONE);
        }

        static boolean mayBeLong(int v) {
            return v >= 1 && v <= MOST_GROOVES;
        }

        static boolean mayBeScratched(int groove) {
            return groove >= 0 && groove < MOST_GROOVES;
        }

        static boolean mayLeadTo(int to) {
            return to >= NONE && to <= FARTHEST;
        }

        int longNow() {
            return grooves;
        }

        void makeLong(int v) {
            if (mayBeLong(v)) {
                grooves = v;
            }
        }

        int skipFrom(int groove) {
            return mayBeScratched(groove) ? skips[groove] : NONE;
        }

        void skipTo(int groove, int to) {
            if (mayBeScratched(groove) && mayLeadTo(to)) {
                skips[groove] = to;
            }
        }

        int scratches() {
            int number = 0;
            for (int i = 0; i < MOST_GROOVES; i++) {
                if (skips[i] != NONE) {
                    number++;
                }
            }
            return number;
        }

        /** NONE: it has played. */
        private int following(int groove, int waxed) {
            if (groove < 0 || groove >= MOST_GROOVES) {
                return NONE;
            }
            boolean skipping = skips[groove] != NONE && (waxed >> groove & 1) == 0;
            int to = skipping ? skips[groove] : groove + 1;
            return to < grooves ? to : NONE;
        }

        /** Where the arm is after so many minutes if nobody kicks; NONE: it has played. */
        private int arrivesAt(int minutes, int waxed) {
            int groove = 0;
            for (int i = 0; i < minutes && groove != NONE; i++) {
                groove = following(groove, waxed);
            }
            return groove;
        }

        /** Who moves on oftener than there are grooves has come to one again. */
        private boolean goesRoundWithout(int waxed) {
            return arrivesAt(MOST_GROOVES, waxed) != NONE;
        }

        boolean goesRound() {
            return goesRoundWithout(0);
        }

        int minutes(int kick) {
            int groove = 0;
            for (int i = 0; i < MOST_GROOVES; i++) {
                groove = following(groove, 0);
                if (groove == NONE) {
                    return i + 1;
                }
            }
            return kick;
        }

        int grooveIn(int minute, int kick) {
            return minute < minutes(kick) ? arrivesAt(minute, 0) : NONE;
        }

        private int scratchedBits() {
            int bits = 0;
            for (int i = 0; i < MOST_GROOVES && i < grooves; i++) {
                if (skips[i] != NONE) {
                    bits |= 1 << i;
                }
            }
            return bits;
        }

        /** The parts of the scratched bits come in rising order, so of like ones the least stays. */
        int fewestWaxed() {
            int scratched = scratchedBits();
            int fewest = scratched;
            int part = 0;
            for (int i = 0; i < 1 << MOST_GROOVES; i++) {
                if (Integer.bitCount(part) < Integer.bitCount(fewest) && !goesRoundWithout(part)) {
                    fewest = part;
                }
                part = part - scratched & scratched;
                if (part == 0) {
                    break;
                }
            }
            return fewest;
        }
    }

    /** Coins in the order in which they were put in: none is earlier than the one ahead. */
    private static final class Coins {
        private final int[] minutes = new int[MOST_COINS];
        private final int[] buttons = new int[MOST_COINS];
        private int held = 0;

        int number() {
            return held;
        }

        boolean isEmpty() {
            return held == 0;
        }

        boolean has(int coin) {
            return coin >= 0 && coin < held;
        }

        int minuteOf(int coin) {
            return coin >= 0 && coin < held ? minutes[coin] : NONE;
        }

        int buttonOf(int coin) {
            return coin >= 0 && coin < held ? buttons[coin] : NONE;
        }

        /** NONE: there is no coin, so that any minute is later. */
        int lastMinute() {
            return minuteOf(held - 1);
        }

        void add(int minute, int button) {
            if (held >= 0 && held < MOST_COINS) {
                minutes[held] = minute;
                buttons[held] = button;
                held++;
            }
        }

        void clear() {
            held = 0;
        }

        void takeAll(Coins others) {
            if (others != null) {
                System.arraycopy(others.minutes, 0, minutes, 0, MOST_COINS);
                System.arraycopy(others.buttons, 0, buttons, 0, MOST_COINS);
                held = others.held;
            }
        }

        void remove(int coin) {
            if (!has(coin)) {
                return;
            }
            for (int i = coin; i + 1 < held; i++) {
                minutes[i] = minutes[i + 1];
                buttons[i] = buttons[i + 1];
            }
            held--;
        }

        int askedFor(int button) {
            int number = 0;
            for (int i = 0; i < held; i++) {
                if (buttonOf(i) == button) {
                    number++;
                }
            }
            return number;
        }

        int numberSince(int button) {
            for (int i = held - 1; i >= 0; i--) {
                if (buttonOf(i) == button) {
                    return held - 1 - i;
                }
            }
            return held;
        }
    }

    /** The text of the coins. Its bytes are kept, well or not; what they say is read anew at each change. */
    private static final class Slip {
        /** Three figures and a semicolon: a twenty-first coin would begin where the text must end. */
        private static final int COIN_BYTES = 4;
        private static final int MOST_BYTES = 80;

        private final int[] bytes = new int[MOST_BYTES];
        private final Coins told = new Coins();
        private int held = 0;
        private int wrongPlace = NONE;

        int bytesHeld() {
            return held;
        }

        int faultPlace() {
            return wrongPlace;
        }

        Coins coins() {
            return told;
        }

        boolean append(int b) {
            if (held < 0 || held >= MOST_BYTES) {
                return false;
            }
            bytes[held] = b;
            held++;
            readAnew();
            return true;
        }

        void clear() {
            held = 0;
            readAnew();
        }

        void dropLastCoin() {
            held = Math.max(held - COIN_BYTES, 0);
            readAnew();
        }

        private void readAnew() {
            wrongPlace = findFault();
            told.clear();
            if (wrongPlace != NONE) {
                return;
            }
            for (int i = 0; i < held; i += COIN_BYTES) {
                told.add(minuteAt(i), figureAt(i + 2));
            }
        }

        private int findFault() {
            for (int i = 0; i < held; i++) {
                if (!goesOnAt(i)) {
                    return i;
                }
            }
            boolean ended = held == 0 || held % COIN_BYTES == COIN_BYTES - 1;
            return ended ? NONE : held;
        }

        private boolean goesOnAt(int place) {
            if (place % COIN_BYTES == COIN_BYTES - 1) {
                return place >= 0 && place < held && bytes[place] == ';';
            }
            boolean early = place % COIN_BYTES == 1 && place > COIN_BYTES
                    && minuteAt(place - 1) < minuteAt(place - 1 - COIN_BYTES);
            return figureAt(place) != NONE && !early;
        }

        private int minuteAt(int place) {
            return 10 * figureAt(place) + figureAt(place + 1);
        }

        /** NONE: it is none. */
        private int figureAt(int place) {
            int b = place >= 0 && place < held ? bytes[place] : NONE;
            return b >= '0' && b <= '9' ? b - '0' : NONE;
        }
    }

    /** A night by a law: its rows are used again by the next one. */
    private static final class Night {
        private final int[] lengths = new int[RECORDS];
        private final int[] timesPlayed = new int[RECORDS];
        private final int[] waiting = new int[RECORDS];
        private final int[] chosen = new int[MOST_COINS];
        private final int[] played = new int[MOST_COINS];
        private final Coins coins = new Coins();
        private int plays = 0;
        private int playedMinutes = 0;
        private int lastEnd = 0;
        private int worn = NONE;

        void measure(int record, int minutes) {
            if (isRecord(record)) {
                lengths[record] = minutes;
            }
        }

        Coins coins() {
            return coins;
        }

        void pass(int law, int life) {
            begin();
            int minute = 0;
            int choices = coins.number();
            for (int i = 0; i < choices; i++) {
                int ahead = firstLeft();
                minute = Math.max(minute, coins.minuteOf(ahead));
                if (minute >= NIGHT_MINUTES) {
                    break;
                }
                int coin = law == 2 ? firstOfMostAsked(minute, ahead)
                        : law == 3 ? latestAsked(minute, ahead) : ahead;
                minute += serve(coin, coins.buttonOf(law == 1 ? coin - 2 : coin), minute, life);
            }
        }

        private void begin() {
            Arrays.fill(timesPlayed, 0);
            Arrays.fill(chosen, NONE);
            Arrays.fill(played, NONE);
            plays = 0;
            playedMinutes = 0;
            lastEnd = 0;
            worn = NONE;
        }

        private int firstLeft() {
            int number = coins.number();
            for (int i = 0; i < number; i++) {
                if (chosenIn(i) == NONE) {
                    return i;
                }
            }
            return NONE;
        }

        private boolean waits(int coin, int minute) {
            return coin >= 0 && coin < coins.held && chosen[coin] == NONE && coins.minutes[coin] <= minute;
        }

        private int firstOfMostAsked(int minute, int ahead) {
            Arrays.fill(waiting, 0);
            int number = coins.number();
            for (int i = 0; i < number; i++) {
                int button = coins.buttonOf(i);
                if (waits(i, minute) && isRecord(button)) {
                    waiting[button]++;
                }
            }
            int most = 0;
            for (int i = 1; i < RECORDS; i++) {
                if (waiting[i] > waiting[most]) {
                    most = i;
                }
            }
            for (int i = 0; i < number; i++) {
                if (waits(i, minute) && coins.buttonOf(i) == most) {
                    return i;
                }
            }
            return ahead;
        }

        private int latestAsked(int minute, int ahead) {
            for (int i = coins.number() - 1; i > ahead; i--) {
                if (waits(i, minute)) {
                    return i;
                }
            }
            return ahead;
        }

        /** How many minutes it takes; record NONE: it is spent for nothing. */
        private int serve(int coin, int record, int minute, int life) {
            if (!coins.has(coin)) {
                return 0;
            }
            chosen[coin] = minute;
            if (!isRecord(record) || timesPlayed[record] >= life) {
                return 0;
            }
            played[coin] = record;
            timesPlayed[record]++;
            if (worn == NONE && timesPlayed[record] == life) {
                worn = record;
            }
            plays++;
            playedMinutes += lengths[record];
            lastEnd = minute + lengths[record];
            return lengths[record];
        }

        int chosenIn(int coin) {
            return coin >= 0 && coin < coins.held ? chosen[coin] : NONE;
        }

        int playedFor(int coin) {
            return coin >= 0 && coin < coins.held ? played[coin] : NONE;
        }

        int waitOf(int coin) {
            return chosenIn(coin) == NONE ? NONE : chosenIn(coin) - coins.minuteOf(coin);
        }

        int playingIn(int minute) {
            int number = coins.number();
            for (int i = 0; i < number; i++) {
                int record = playedFor(i);
                if (isRecord(record) && minute >= chosenIn(i) && minute - chosenIn(i) < lengths[record]) {
                    return record;
                }
            }
            return NONE;
        }

        /** No two plays overlap and none begins ahead of the first coin, so the rest is silent. */
        int silentMinutes() {
            return plays == 0 ? 0 : lastEnd - coins.minuteOf(0) - playedMinutes;
        }

        int pleasedWithin(int patience) {
            int pleased = 0;
            int number = coins.number();
            for (int i = 0; i < number; i++) {
                if (playedFor(i) != NONE && waitOf(i) <= patience) {
                    pleased++;
                }
            }
            return pleased;
        }

        int endOfLastPlay() {
            return lastEnd;
        }

        int playsOf(int record) {
            return isRecord(record) ? timesPlayed[record] : 0;
        }

        int allPlays() {
            return plays;
        }

        int firstWorn() {
            return worn;
        }
    }

    /** A row of bytes, shorts or ints, or none. Its room is made once; ints hold what the form lets through. */
    private static final class Sheet {
        private static final int BYTES = 0, SHORTS = 1, INTS = 2;
        private static final int LOST = -1;
        private static final int MOST_ITEMS = 60;

        private final int[] items = new int[MOST_ITEMS];
        private int form = LOST;
        private int held = 0;

        static boolean isForm(int form) {
            return form >= BYTES && form <= INTS;
        }

        boolean isLost() {
            return form == LOST;
        }

        int formNow() {
            return form;
        }

        int number() {
            return held;
        }

        void renew(int newForm, int number) {
            if (!isForm(newForm) || number < 0 || number > MOST_ITEMS) {
                return;
            }
            Arrays.fill(items, 0);
            form = newForm;
            held = number;
        }

        void becomeLost() {
            form = LOST;
            held = 0;
        }

        boolean holds(int i) {
            return i >= 0 && i < held && i < MOST_ITEMS;
        }

        boolean holdsRun(int i, int number) {
            return i >= 0 && i <= held && number >= 0 && number <= held - i;
        }

        int item(int i) {
            return holds(i) ? items[i] : 0;
        }

        void put(int i, int v) {
            if (holds(i)) {
                items[i] = narrowed(v);
            }
        }

        private int narrowed(int v) {
            switch (form) {
                case BYTES: return (byte) v;
                case SHORTS: return (short) v;
                default: return v;
            }
        }

        void takeRun(Sheet from, int i, int j, int number) {
            if (from != null && from.holdsRun(i, number) && holdsRun(j, number)) {
                System.arraycopy(from.items, i, items, j, number);
            }
        }
    }
}
