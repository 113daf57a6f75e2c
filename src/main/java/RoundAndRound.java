public final class RoundAndRound {
    public static final int NONE = -1, BAD = -2, STATE = -3, FULL = -4;
    public static final long NO = -4611686018427387904L;

    private static final int NOTHING_THERE = -11, OUTSIDE = -12, UNLIKE = -13, SIZE_BELOW_ZERO = -14;
    private static final int NO_HEAD_TO_TELL = -5, ILL_TOLD = -7;
    private static final int NO_HEAD = -100005, ILL = -100007;
    private static final int FAULT_BASE = -100, NO_SUCH_TURNS = -100;

    private static final int MOST_HEADS = 5, MOST_TEXTS = 6, SHEETS = 4, MOST_CELLS = 40;
    private static final int MOST_BYTES = 160, MOST_OPEN = 5, MOST_STACKED = 40;
    private static final int KINDS = 6, HEAD = 0, DANCER = 1, SMALL = 2, WHIPPING = 3, QUEASY = 4, SPINNING = 5;
    private static final int MOST_MORE = 9, MOST_CAKE = 9, MOST_USED = 99, MOST_SENSE = 9999, MOST_WAY = 99999;
    private static final int MOST_TURNS = 40, MOST_SECONDS = 60, QUICKEST = 9, MOST_SEED = 99999;
    private static final int OPEN = 1, MISSING = -1, INTS = 2;
    private static final int BUILDS = 0, FADES = 1, BENDS = 2, PARTS = 3;
    private static final String FIRST_TEXT = "builds 20 + speed * 10 ; fades 10 ; bends 100 ; ";

    private final Head[] heads = new Head[MOST_HEADS];
    private final Head[] imageHeads = new Head[MOST_HEADS];
    private final Head thought = new Head();
    private final Head ahead = new Head();
    private final int[] turnedSenses = new int[2 * MOST_TURNS + 1];
    private final Text[] texts = new Text[MOST_TEXTS];
    private final Text noText = new Text();
    private final Reader reader = new Reader();
    private final Sheet[] sheets = new Sheet[SHEETS];
    private final Sheet noSheet = new Sheet();
    private int headCount = 0;
    private int textCount = 0;
    private int lawNumber = 0;
    private int imageCount = MISSING;
    private int imageLaw = 0;

    public RoundAndRound() {
        for (int i = 0; i < MOST_HEADS; i++) {
            heads[i] = new Head();
            imageHeads[i] = new Head();
        }
        for (int i = 0; i < MOST_TEXTS; i++) {
            texts[i] = new Text();
        }
        for (int i = 0; i < SHEETS; i++) {
            sheets[i] = new Sheet();
        }
        for (int i = 0; i < FIRST_TEXT.length(); i++) {
            reader.take(FIRST_TEXT.charAt(i));
        }
        reader.read(textAt(0));
        reader.empty();
        textCount = 1;
    }

    // ---- the law

    public int count(int what) {
        switch (what) {
            case 0: return headCount;
            case 1: return textCount;
            case 2: return lawNumber;
            case 3: return reader.size;
            default: return BAD;
        }
    }

    public int feed(int n, int a, int b, int c, int d, int e) {
        if (!within(n, 1, 5) || !isByte(a) || !isByte(b) || !isByte(c) || !isByte(d) || !isByte(e)) {
            return BAD;
        }
        if (reader.size + n > MOST_BYTES) {
            return FULL;
        }
        for (int i = 0; i < n; i++) {
            reader.take(i == 0 ? a : i == 1 ? b : i == 2 ? c : i == 3 ? d : e);
        }
        return reader.size;
    }

    public int text() {
        if (textCount >= MOST_TEXTS) {
            return FULL;
        }
        int fault = reader.read(textAt(textCount));
        reader.empty();
        if (fault >= 0) {
            return FAULT_BASE - fault;
        }
        textCount++;
        return textCount - 1;
    }

    public int force(int t) {
        if (!within(t, 0, textCount - 1)) {
            return BAD;
        }
        int was = lawNumber;
        lawNumber = t;
        return was;
    }

    public int asks(int part, int h, int speedEyes) {
        if (!within(part, 0, PARTS - 1) || !isHead(h) || !isNumberAndEyes(speedEyes, 0)) {
            return BAD;
        }
        return law().says(part, headAt(h), speedEyes / 10, speedEyes % 10);
    }

    // ---- heads

    public int head(int kind, int more) {
        if (!isKind(kind) || !within(more, 0, MOST_MORE)) {
            return BAD;
        }
        if (headCount >= MOST_HEADS) {
            return FULL;
        }
        headAt(headCount).begin(kind, more);
        headCount++;
        return headCount - 1;
    }

    public int set(int h, int what, int v) {
        if (!isHead(h)) {
            return NO_HEAD;
        }
        Head one = headAt(h);
        int was;
        if (what == 0 && within(v, -MOST_SENSE, MOST_SENSE)) {
            was = one.sense;
            one.sense = v;
        } else if (what == 1 && within(v, 0, MOST_CAKE)) {
            was = one.cake;
            one.cake = v;
        } else if (what == 2 && within(v, 0, MOST_USED)) {
            was = one.used;
            one.used = v;
        } else {
            return ILL;
        }
        return was;
    }

    public int told(int h, int what) {
        if (!isHead(h)) {
            return NO_HEAD;
        }
        Head one = headAt(h);
        switch (what) {
            case 0: return one.kind;
            case 1: return one.more;
            case 2: return one.sense;
            case 3: return one.cake;
            case 4: return one.used;
            case 5: return one.along;
            case 6: return one.aside;
            case 7: return one.down ? 1 : 0;
            case 8: return one.fallsFrom();
            default: return ILL;
        }
    }

    // ---- turning, waiting, walking

    public int turn(int h, int n, int speed) {
        if (!isHead(h)) {
            return NO_HEAD;
        }
        if (!isTurns(n) || !isPace(speed)) {
            return ILL;
        }
        Head one = headAt(h);
        one.spin(law(), n, speed);
        one.used = Math.min(one.used + 1, MOST_USED);
        return one.sense;
    }

    public int rest(int h, int seconds, int eyes) {
        if (!isHead(h)) {
            return NO_HEAD;
        }
        if (!isSeconds(seconds) || !within(eyes, 0, 1)) {
            return ILL;
        }
        Head one = headAt(h);
        one.linger(law(), seconds, eyes);
        return one.sense;
    }

    public int walk(int h, int seconds, int paceEyes) {
        if (!isHead(h)) {
            return NO_HEAD;
        }
        if (!isSeconds(seconds) || !isNumberAndEyes(paceEyes, 1)) {
            return ILL;
        }
        Head one = headAt(h);
        one.goOn(law(), seconds, paceEyes / 10, paceEyes % 10);
        return one.aside;
    }

    public int up(int h) {
        if (!isHead(h)) {
            return NO_HEAD;
        }
        Head one = headAt(h);
        int was = one.aside;
        one.standAtStart();
        return was;
    }

    // ---- tries

    public int ends(int h, int n, int waitSpeedPace, int seconds, int what) {
        if (!isHead(h)) {
            return NO_HEAD;
        }
        if (!isTurns(n) || !isWaitSpeedPace(waitSpeedPace) || !isSeconds(seconds) || !within(what, 0, 3)) {
            return ILL;
        }
        thinkTurned(headAt(h), law(), n, waitSpeedPace / 10 % 10);
        thought.linger(law(), waitSpeedPace / 100, OPEN);
        int fallen = thought.goOn(law(), seconds, waitSpeedPace % 10, OPEN);
        switch (what) {
            case 0: return thought.sense;
            case 1: return thought.aside;
            case 2: return thought.along;
            default: return fallen;
        }
    }

    public int stands(int h, int speed) {
        if (!isHead(h)) {
            return NO_HEAD;
        }
        if (!isPace(speed)) {
            return ILL;
        }
        think(headAt(h));
        int greatest = 0;
        for (int n = 1; n <= MOST_TURNS; n++) {
            thought.spinOnce(law(), speed, 1);
            if (!thought.mustFall()) {
                greatest = n;
            }
        }
        return greatest;
    }

    public int undo(int h, int speed, int what) {
        if (!isHead(h)) {
            return NO_HEAD;
        }
        if (!isPace(speed) || !within(what, 0, 1)) {
            return ILL;
        }
        think(headAt(h));
        int side = thought.sense > 0 ? -1 : 1;
        int fewest = 0;
        int least = Math.abs(thought.sense);
        for (int n = 1; n <= MOST_TURNS; n++) {
            thought.spinOnce(law(), speed, side);
            if (Math.abs(thought.sense) < least) {
                least = Math.abs(thought.sense);
                fewest = n;
            }
        }
        return what == 0 ? fewest : least;
    }

    public int fine(int h, int much) {
        if (!isHead(h)) {
            return NO_HEAD;
        }
        if (!within(much, 1, MOST_SENSE)) {
            return ILL;
        }
        think(headAt(h));
        for (int wait = 0; wait <= MOST_SECONDS; wait++) {
            if (Math.abs(thought.sense) < much) {
                return wait;
            }
            thought.fade(law(), OPEN);
        }
        return NONE;
    }

    public int race(int h, int n, int speedPace, int farWide, int what) {
        if (!isHead(h)) {
            return NO_HEAD;
        }
        if (!isRace(n, speedPace, farWide, what)) {
            return ILL;
        }
        int wait = raceWait(headAt(h), n, speedPace, farWide);
        return wait < 0 || what == 0 ? wait : wait + raceSeconds(speedPace, farWide);
    }

    public int wins(int n, int speedPace, int farWide, int what) {
        if (!isRace(n, speedPace, farWide, what)) {
            return ILL;
        }
        int winner = NONE;
        int least = NONE;
        for (int h = 0; h < headCount; h++) {
            int wait = raceWait(headAt(h), n, speedPace, farWide);
            if (wait >= 0 && (winner < 0 || wait < least)) {
                winner = h;
                least = wait;
            }
        }
        return winner < 0 || what == 0 ? winner : least + raceSeconds(speedPace, farWide);
    }

    public int pace(int h, int n, int speed, int far, int what) {
        if (!isHead(h)) {
            return NO_HEAD;
        }
        if (!isTurns(n) || !isPace(speed) || !within(far, 1, MOST_SECONDS) || !within(what, 0, 1)) {
            return ILL;
        }
        thinkTurned(headAt(h), law(), n, speed);
        ahead.become(thought);
        int best = NONE;
        int least = NONE;
        for (int quick = QUICKEST; quick >= 1; quick--) {
            thought.become(ahead);
            thought.goOn(law(), roundedUp(far, quick), quick, OPEN);
            int off = Math.abs(thought.aside);
            if (!thought.down && (best < 0 || off < least)) {
                best = quick;
                least = off;
            }
        }
        return what == 0 ? best : least;
    }

    public int roses(int h, int speedPace, int seconds, int at, int what) {
        if (!isHead(h)) {
            return NO_HEAD;
        }
        if (!isSpeedPace(speedPace) || !isSeconds(seconds) || !within(at, -MOST_WAY, MOST_WAY) || !within(what, 0, 1)) {
            return ILL;
        }
        Head one = headAt(h);
        fillTurnedSenses(one, speedPace / 10);
        int best = 0;
        int least = 0;
        for (int i = 0; i < turnedSenses.length; i++) {
            think(one);
            thought.sense = turnedSenses[i];
            thought.goOn(law(), seconds, speedPace % 10, OPEN);
            int off = Math.abs(thought.aside - at);
            if (i == 0 || off < least) {
                best = turnsAt(i);
                least = off;
            }
        }
        return what == 0 ? best : least;
    }

    // ---- told ways

    public int judge(int s, int h, int n, int speedPace) {
        int refusal = refusalOfTold(s, h);
        if (refusal != 0) {
            return refusal;
        }
        if (!isTurns(n) || !isSpeedPace(speedPace)) {
            return ILL_TOLD;
        }
        thinkTurned(headAt(h), law(), n, speedPace / 10);
        return firstOtherwise(sheetAt(s), law(), speedPace % 10);
    }

    public int turned(int s, int h, int speedPace, int what) {
        int refusal = refusalOfTold(s, h);
        if (refusal != 0) {
            return refusal;
        }
        if (!isSpeedPace(speedPace) || !within(what, 0, 1)) {
            return ILL_TOLD;
        }
        Head one = headAt(h);
        fillTurnedSenses(one, speedPace / 10);
        int many = 0;
        int first = NO_SUCH_TURNS;
        for (int i = 0; i < turnedSenses.length; i++) {
            think(one);
            thought.sense = turnedSenses[i];
            if (firstOtherwise(sheetAt(s), law(), speedPace % 10) < 0) {
                first = many == 0 ? turnsAt(i) : first;
                many++;
            }
        }
        return what == 0 ? many : first;
    }

    public int kinds(int s, int h, int n, int speedPace, int sort) {
        int refusal = refusalOfTold(s, h);
        if (refusal != 0) {
            return refusal;
        }
        if (!isTurns(n) || !isSpeedPace(speedPace) || !within(sort, 0, 2)) {
            return ILL_TOLD;
        }
        int choices = sort == 0 ? KINDS : sort == 1 ? MOST_MORE + 1 : MOST_CAKE + 1;
        int bits = 0;
        for (int i = 0; i < choices; i++) {
            think(headAt(h));
            thought.kind = sort == 0 ? i : thought.kind;
            thought.more = sort == 1 ? i : thought.more;
            thought.cake = sort == 2 ? i : thought.cake;
            thought.spin(law(), n, speedPace / 10);
            if (firstOtherwise(sheetAt(s), law(), speedPace % 10) < 0) {
                bits |= 1 << i;
            }
        }
        return bits;
    }

    public int laws(int s, int h, int n, int speedPace) {
        int refusal = refusalOfTold(s, h);
        if (refusal != 0) {
            return refusal;
        }
        if (!isTurns(n) || !isSpeedPace(speedPace)) {
            return ILL_TOLD;
        }
        int bits = 0;
        for (int t = 0; t < textCount; t++) {
            thinkTurned(headAt(h), textAt(t), n, speedPace / 10);
            if (firstOtherwise(sheetAt(s), textAt(t), speedPace % 10) < 0) {
                bits |= 1 << t;
            }
        }
        return bits;
    }

    public int whose(int s, int n, int speedPace) {
        int refusal = refusalOfSheet(s);
        if (refusal != 0) {
            return refusal;
        }
        if (!isTurns(n) || !isSpeedPace(speedPace)) {
            return ILL_TOLD;
        }
        int bits = 0;
        for (int h = 0; h < headCount; h++) {
            thinkTurned(headAt(h), law(), n, speedPace / 10);
            if (firstOtherwise(sheetAt(s), law(), speedPace % 10) < 0) {
                bits |= 1 << h;
            }
        }
        return bits;
    }

    public int film(int s, int h, int n, int speedPace, int seconds) {
        if (!isSheet(s)) {
            return BAD;
        }
        if (!isHead(h)) {
            return NO_HEAD_TO_TELL;
        }
        if (!isTurns(n) || !isSpeedPace(speedPace) || !within(seconds, 0, MOST_CELLS)) {
            return ILL_TOLD;
        }
        Sheet row = sheetAt(s);
        row.begin(INTS, seconds);
        thinkTurned(headAt(h), law(), n, speedPace / 10);
        for (int i = 0; i < seconds; i++) {
            thought.step(law(), speedPace % 10, OPEN);
            row.put(i, thought.aside);
        }
        return seconds;
    }

    // ---- walks by lots

    public int drawn(int seed, int h, int seconds, int oddsPace, int what) {
        if (!isHead(h)) {
            return NO_HEAD;
        }
        if (!within(seed, 0, MOST_SEED) || !isSeconds(seconds) || !isOddsPace(oddsPace) || !within(what, 0, 2)) {
            return ILL;
        }
        thinkDrawn(headAt(h), seed, seconds, oddsPace);
        switch (what) {
            case 0: return thought.aside;
            case 1: return thought.along;
            default: return thought.down ? 1 : 0;
        }
    }

    public long odds(int seed, int secondsSeeds, int h, int oddsPace, int wide, int part) {
        if (!isHead(h) || !within(seed, 0, MOST_SEED) || !isSecondsSeeds(secondsSeeds)) {
            return NO;
        }
        if (!isOddsPace(oddsPace) || !within(wide, 0, MOST_WAY) || !within(part, 0, 1)) {
            return NO;
        }
        int seeds = secondsSeeds % 100;
        int many = 0;
        for (int i = 0; i < seeds; i++) {
            thinkDrawn(headAt(h), seed + i, secondsSeeds / 100, oddsPace);
            if (Math.abs(thought.aside) <= wide) {
                many++;
            }
        }
        int shared = greatestShared(many, seeds);
        return (part == 0 ? many : seeds) / shared;
    }

    public int image() {
        for (int h = 0; h < headCount; h++) {
            imageHeadAt(h).become(headAt(h));
        }
        imageCount = headCount;
        imageLaw = lawNumber;
        return headCount;
    }

    public int back() {
        if (imageCount < 0) {
            return STATE;
        }
        for (int h = 0; h < imageCount; h++) {
            headAt(h).become(imageHeadAt(h));
        }
        headCount = imageCount;
        lawNumber = imageLaw;
        return headCount;
    }

    // ---- the host

    public int sheet(int s, int sort, int n) {
        if (!isSheet(s) || !within(sort, MISSING, INTS)) {
            return BAD;
        }
        if (sort == MISSING) {
            sheetAt(s).begin(MISSING, 0);
            return 1;
        }
        if (n > MOST_CELLS) {
            return BAD;
        }
        if (n < 0) {
            return SIZE_BELOW_ZERO;
        }
        sheetAt(s).begin(sort, n);
        return 1;
    }

    public int cell(int s, int i, int v) {
        int refusal = refusalOfSheet(s);
        if (refusal != 0) {
            return refusal;
        }
        if (!sheetAt(s).has(i)) {
            return OUTSIDE;
        }
        sheetAt(s).put(i, v);
        return 1;
    }

    public int copy(int s, int i, int other, int j, int n) {
        if (!isSheet(s) || !isSheet(other)) {
            return BAD;
        }
        Sheet from = sheetAt(s);
        Sheet to = sheetAt(other);
        if (from.isMissing() || to.isMissing()) {
            return NOTHING_THERE;
        }
        if (from.sort != to.sort) {
            return UNLIKE;
        }
        if (!from.hasRow(i, n) || !to.hasRow(j, n)) {
            return OUTSIDE;
        }
        System.arraycopy(from.cells, i, to.cells, j, n);
        return n;
    }

    public int headsBy(int s, int sort, int at, int n) {
        if (!isSheet(s) || !within(sort, 0, INTS) || !within(n, 0, MOST_HEADS)) {
            return BAD;
        }
        Sheet by = sheetAt(s);
        if (by.isMissing()) {
            return NOTHING_THERE;
        }
        if (by.sort != sort) {
            return UNLIKE;
        }
        int came = 0;
        for (int k = 0; k < n; k++) {
            if (!by.hasRow(at, 2 * k + 2)) {
                return OUTSIDE;
            }
            if (head(by.get(at + 2 * k), by.get(at + 2 * k + 1)) >= 0) {
                came++;
            }
        }
        return came;
    }

    public int taken(int i, int kind) {
        if (!within(kind, 0, KINDS)) {
            return BAD;
        }
        if (!within(i, 0, 2 * MOST_HEADS - 1)) {
            return OUTSIDE;
        }
        boolean aboutFall = i >= MOST_HEADS;
        int h = aboutFall ? i - MOST_HEADS : i;
        if (!isHead(h)) {
            return NOTHING_THERE;
        }
        if (aboutFall != (kind == KINDS)) {
            return UNLIKE;
        }
        if (aboutFall) {
            return headAt(h).down ? 1 : 0;
        }
        return Kind.isOne(headAt(h).kind, kind) ? h : UNLIKE;
    }

    // ---- what is thought

    private void think(Head one) {
        thought.become(one);
        thought.standAtStart();
    }

    private void thinkTurned(Head one, Text law, int n, int speed) {
        think(one);
        thought.spin(law, n, speed);
    }

    private void thinkDrawn(Head one, int seed, int seconds, int oddsPace) {
        think(one);
        long lot = seed + 1;
        for (int i = 0; i < seconds; i++) {
            lot = lot * 48271L % 2147483647L;
            thought.step(law(), oddsPace % 10, lot % 100 < oddsPace / 10 ? 0 : OPEN);
        }
    }

    /** The SENSE after 0, 1, -1, 2, -2, .. 40, -40 turns, so that none is turned again from the first on. */
    private void fillTurnedSenses(Head one, int speed) {
        think(one);
        ahead.become(thought);
        for (int i = 0; i < turnedSenses.length; i++) {
            if (i % 2 == 1) {
                thought.spinOnce(law(), speed, 1);
            } else if (i > 0) {
                ahead.spinOnce(law(), speed, -1);
            }
            turnedSenses[i] = i % 2 == 1 ? thought.sense : ahead.sense;
        }
    }

    private static int turnsAt(int i) {
        return i % 2 == 1 ? (i + 1) / 2 : -(i / 2);
    }

    /** The first second of what is thought, from here on, that a sheet tells otherwise. */
    private int firstOtherwise(Sheet row, Text law, int pace) {
        for (int i = 0; i < row.size; i++) {
            thought.step(law, pace, OPEN);
            if (row.get(i) != thought.aside) {
                return i;
            }
        }
        return NONE;
    }

    private static int raceSeconds(int speedPace, int farWide) {
        return roundedUp(farWide / 1000, speedPace % 10);
    }

    /** The least WAIT, or -1; only the seconds on one's feet are bounded by 60, not WAIT and these together. */
    private int raceWait(Head one, int n, int speedPace, int farWide) {
        int seconds = raceSeconds(speedPace, farWide);
        if (!isSeconds(seconds)) {
            return NONE;
        }
        ahead.become(one);
        ahead.standAtStart();
        ahead.spin(law(), n, speedPace / 10);
        for (int wait = 0; wait <= MOST_SECONDS; wait++) {
            thought.become(ahead);
            thought.goOn(law(), seconds, speedPace % 10, OPEN);
            if (!thought.down && Math.abs(thought.aside) <= farWide % 1000) {
                return wait;
            }
            ahead.fade(law(), OPEN);
        }
        return NONE;
    }

    private static int roundedUp(int far, int pace) {
        return pace < 1 ? 0 : (far + pace - 1) / pace;
    }

    private static int greatestShared(int a, int b) {
        int large = a;
        int small = b;
        for (int i = 0; i < 100 && small != 0; i++) {
            int left = large % small;
            large = small;
            small = left;
        }
        return Math.max(1, large);
    }

    // ---- what stands at a number

    private Head headAt(int h) {
        Head one = h >= 0 && h < heads.length ? heads[h] : null;
        return one == null ? thought : one;
    }

    private Head imageHeadAt(int h) {
        Head one = h >= 0 && h < imageHeads.length ? imageHeads[h] : null;
        return one == null ? thought : one;
    }

    private Text textAt(int t) {
        Text one = t >= 0 && t < texts.length ? texts[t] : null;
        return one == null ? noText : one;
    }

    private Text law() {
        return textAt(lawNumber);
    }

    private Sheet sheetAt(int s) {
        Sheet one = s >= 0 && s < sheets.length ? sheets[s] : null;
        return one == null ? noSheet : one;
    }

    // ---- whether numbers are as told

    private static boolean within(int v, int low, int high) {
        return v >= low && v <= high;
    }

    private static int bounded(int v, int low, int high) {
        return Math.max(low, Math.min(high, v));
    }

    private static boolean isByte(int v) {
        return within(v, 0, 255);
    }

    private boolean isHead(int h) {
        return within(h, 0, headCount - 1);
    }

    private static boolean isKind(int kind) {
        return within(kind, 0, KINDS - 1);
    }

    private static boolean isSheet(int s) {
        return within(s, 0, SHEETS - 1);
    }

    private static boolean isTurns(int n) {
        return within(n, -MOST_TURNS, MOST_TURNS);
    }

    private static boolean isSeconds(int seconds) {
        return within(seconds, 0, MOST_SECONDS);
    }

    private static boolean isPace(int pace) {
        return within(pace, 1, QUICKEST);
    }

    private static boolean isSpeedPace(int v) {
        return v > 0 && isPace(v / 10) && isPace(v % 10);
    }

    private static boolean isNumberAndEyes(int v, int least) {
        return v >= 0 && within(v / 10, least, QUICKEST) && within(v % 10, 0, 1);
    }

    private static boolean isWaitSpeedPace(int v) {
        return v > 0 && isSeconds(v / 100) && isSpeedPace(v % 100);
    }

    private static boolean isOddsPace(int v) {
        return v > 0 && within(v / 10, 0, 100) && isPace(v % 10);
    }

    private static boolean isSecondsSeeds(int v) {
        return v > 0 && isSeconds(v / 100) && within(v % 100, 1, 40);
    }

    private static boolean isRace(int n, int speedPace, int farWide, int what) {
        return isTurns(n) && isSpeedPace(speedPace) && within(farWide, 1000, 540999) && within(what, 0, 1);
    }

    private int refusalOfSheet(int s) {
        if (!isSheet(s)) {
            return BAD;
        }
        return sheetAt(s).isMissing() ? NOTHING_THERE : 0;
    }

    private int refusalOfTold(int s, int h) {
        int refusal = refusalOfSheet(s);
        return refusal != 0 || isHead(h) ? refusal : NO_HEAD_TO_TELL;
    }

    /** What the kinds change of what a text says; a bound counts only in the end, not ahead of a kind below. */
    private static final class Kind {
        static boolean isOne(int kind, int wanted) {
            return wanted == kind || wanted == HEAD || wanted == above(kind);
        }

        static int above(int kind) {
            return kind == WHIPPING ? DANCER : kind == QUEASY ? SMALL : HEAD;
        }

        static int builds(int kind, int said, int speed, int more) {
            switch (kind) {
                case DANCER: return said / 2;
                case WHIPPING: return speed > 4 ? said / 2 / 2 : said / 2;
                case SMALL:
                case QUEASY: return Math.max(0, said - 5 * more);
                case SPINNING: return said + speed * more;
                default: return said;
            }
        }

        static int fades(int kind, int said) {
            int small = said + 5;
            int fading = kind == SMALL ? small : kind == QUEASY ? small / 3 : said;
            return bounded(fading, 0, 100);
        }

        static int fallsFrom(int kind, int more) {
            switch (kind) {
                case DANCER:
                case WHIPPING: return 800 + 20 * more;
                case QUEASY: return 800 / 2;
                default: return 800;
            }
        }
    }

    private static final class Head {
        int kind, more, sense, cake, used, along, aside;
        boolean down;

        void begin(int newKind, int newMore) {
            kind = newKind;
            more = newMore;
            sense = 0;
            cake = 0;
            used = 0;
            standAtStart();
        }

        void become(Head other) {
            kind = other.kind;
            more = other.more;
            sense = other.sense;
            cake = other.cake;
            used = other.used;
            along = other.along;
            aside = other.aside;
            down = other.down;
        }

        void standAtStart() {
            along = 0;
            aside = 0;
            down = false;
        }

        int fallsFrom() {
            return Kind.fallsFrom(kind, more);
        }

        boolean mustFall() {
            return Math.abs(sense) >= fallsFrom();
        }

        void fade(Text law, int eyes) {
            int fading = Kind.fades(kind, law.says(FADES, this, 0, eyes));
            sense -= sense * fading / 100;
        }

        void spinOnce(Text law, int speed, int side) {
            int building = Kind.builds(kind, law.says(BUILDS, this, speed, OPEN), speed, more);
            sense = bounded(sense + side * building, -MOST_SENSE, MOST_SENSE);
            fade(law, OPEN);
        }

        void spin(Text law, int n, int speed) {
            int turns = Math.abs(n);
            for (int i = 0; i < turns; i++) {
                spinOnce(law, speed, n > 0 ? 1 : -1);
            }
        }

        void linger(Text law, int seconds, int eyes) {
            for (int i = 0; i < seconds; i++) {
                fade(law, eyes);
            }
        }

        void step(Text law, int pace, int eyes) {
            if (down || mustFall()) {
                down = true;
                return;
            }
            int bending = sense * law.says(BENDS, this, pace, eyes) / 1000;
            along = bounded(along + pace, -MOST_WAY, MOST_WAY);
            aside = bounded(aside + bending, -MOST_WAY, MOST_WAY);
            fade(law, eyes);
        }

        /** So many seconds on one's feet: in which one falls, or -1. */
        int goOn(Text law, int seconds, int pace, int eyes) {
            for (int i = 0; i < seconds; i++) {
                if (down) {
                    return NONE;
                }
                step(law, pace, eyes);
                if (down) {
                    return i;
                }
            }
            return NONE;
        }
    }

    /** A text as its numbers, names and operators, each operator behind what it works on. */
    private static final class Text {
        static final int FIRST_NAME = 10000;
        static final int OR = 20000, AND = 20001, LESS = 20002, SAME = 20003;
        static final int PLUS = 20004, MINUS = 20005, TIMES = 20006;
        static final int NOT = 30000, NEGATIVE = 30001;

        final int[] code = new int[MOST_BYTES];
        final int[] partEnds = new int[PARTS];
        final int[] stack = new int[MOST_STACKED];
        int size, parts;

        void clear() {
            size = 0;
            parts = 0;
        }

        void add(int item) {
            if (size >= 0 && size < code.length) {
                code[size] = item;
                size++;
            }
        }

        void endPart() {
            if (parts >= 0 && parts < partEnds.length) {
                partEnds[parts] = size;
                parts++;
            }
        }

        int partEnd(int part) {
            return part >= 0 && part < parts && part < partEnds.length ? partEnds[part] : 0;
        }

        int says(int part, Head of, int speed, int eyes) {
            int end = Math.min(partEnd(part), code.length);
            int top = 0;
            for (int i = Math.max(0, partEnd(part - 1)); i < end; i++) {
                int item = code[i];
                if (item < OR && top < stack.length) {
                    stack[top] = item < FIRST_NAME ? item : named(item, of, speed, eyes);
                    top++;
                } else if (item >= NOT && top >= 1) {
                    int right = stack[top - 1];
                    stack[top - 1] = item == NEGATIVE ? -right : right == 0 ? 1 : 0;
                } else if (item >= OR && top >= 2) {
                    top--;
                    stack[top - 1] = joined(item, stack[top - 1], stack[top]);
                }
            }
            return bounded(stack[0], 0, part == FADES ? 100 : 999);
        }

        static int named(int name, Head of, int speed, int eyes) {
            switch (name) {
                case FIRST_NAME: return speed;
                case FIRST_NAME + 1: return of.cake;
                case FIRST_NAME + 2: return of.used;
                case FIRST_NAME + 3: return of.more;
                case FIRST_NAME + 4: return of.sense;
                default: return eyes;
            }
        }

        static int joined(int operator, int left, int right) {
            switch (operator) {
                case OR: return left != 0 || right != 0 ? 1 : 0;
                case AND: return left != 0 && right != 0 ? 1 : 0;
                case LESS: return left < right ? 1 : 0;
                case SAME: return left == right ? 1 : 0;
                case PLUS: return left + right;
                case MINUS: return left - right;
                default: return left * right;
            }
        }
    }

    /** THE TAPE, and how it is read: one token ahead, each fault at the place of that token. */
    private static final class Reader {
        static final String WORDS = "builds fades bends or and not speed cake used more sense eyes";
        static final int WORD_COUNT = 12, LONGEST_WORD = 6;
        static final int NO_TOKEN = -1, END = 0, NUMBER = 1, FIRST_WORD = 128;
        static final int OR = FIRST_WORD + 3, AND = FIRST_WORD + 4, NOT = FIRST_WORD + 5;
        static final int FIRST_NAME = FIRST_WORD + 6, LAST_NAME = FIRST_WORD + 11;

        final int[] tape = new int[MOST_BYTES];
        /** Each word as one number, a digit to the base 32 for each letter, so that one test compares it. */
        final long[] words = new long[WORD_COUNT];
        int size, next, place, token, number, open, fault;

        Reader() {
            int which = 0;
            for (int i = 0; i < WORDS.length(); i++) {
                if (WORDS.charAt(i) == ' ') {
                    which++;
                } else if (which < words.length) {
                    words[which] = words[which] * 32 + WORDS.charAt(i) - 'a' + 1;
                }
            }
        }

        void take(int b) {
            if (size >= 0 && size < tape.length) {
                tape[size] = b;
                size++;
            }
        }

        void empty() {
            size = 0;
        }

        private int byteAt(int i) {
            return i >= 0 && i < size && i < tape.length ? tape[i] : -1;
        }

        /** Where the fault is, or -1. */
        int read(Text into) {
            into.clear();
            next = 0;
            open = 0;
            fault = NONE;
            advance();
            for (int part = 0; part < PARTS; part++) {
                expect(FIRST_WORD + part);
                readOr(into);
                expect(';');
                into.endPart();
            }
            expect(END);
            return fault;
        }

        private boolean failed() {
            return fault >= 0;
        }

        private void fail() {
            fault = failed() ? fault : place;
        }

        private void expect(int wanted) {
            if (token != wanted) {
                fail();
            }
            if (!failed()) {
                advance();
            }
        }

        private boolean at(int wanted) {
            return !failed() && token == wanted;
        }

        private void readOr(Text into) {
            readAnd(into);
            for (int i = 0; i < MOST_BYTES && at(OR); i++) {
                advance();
                readAnd(into);
                into.add(Text.OR);
            }
        }

        private void readAnd(Text into) {
            readNot(into);
            for (int i = 0; i < MOST_BYTES && at(AND); i++) {
                advance();
                readNot(into);
                into.add(Text.AND);
            }
        }

        private void readNot(Text into) {
            if (at(NOT)) {
                if (opened()) {
                    readNot(into);
                    open--;
                    into.add(Text.NOT);
                }
                return;
            }
            readSum(into);
            if (at('<') || at('=')) {
                int operator = token == '<' ? Text.LESS : Text.SAME;
                advance();
                readSum(into);
                into.add(operator);
            }
        }

        private void readSum(Text into) {
            readTerm(into);
            for (int i = 0; i < MOST_BYTES && (at('+') || at('-')); i++) {
                int operator = token == '+' ? Text.PLUS : Text.MINUS;
                advance();
                readTerm(into);
                into.add(operator);
            }
        }

        private void readTerm(Text into) {
            readOne(into);
            for (int i = 0; i < MOST_BYTES && at('*'); i++) {
                advance();
                readOne(into);
                into.add(Text.TIMES);
            }
        }

        private void readOne(Text into) {
            if (failed()) {
                return;
            }
            if (token == NUMBER) {
                into.add(number);
                advance();
            } else if (token >= FIRST_NAME && token <= LAST_NAME) {
                into.add(Text.FIRST_NAME + token - FIRST_NAME);
                advance();
            } else if (token == '-') {
                if (opened()) {
                    readOne(into);
                    open--;
                    into.add(Text.NEGATIVE);
                }
            } else if (token == '(') {
                if (opened()) {
                    readOr(into);
                    open--;
                    expect(')');
                }
            } else {
                fail();
            }
        }

        /** Goes past a token that opens, or fails at it: this also bounds how deep reading goes. */
        private boolean opened() {
            if (open >= MOST_OPEN) {
                fail();
                return false;
            }
            open++;
            advance();
            return true;
        }

        private void advance() {
            for (int i = 0; i < MOST_BYTES && isBlank(byteAt(next)); i++) {
                next++;
            }
            place = next;
            int first = byteAt(next);
            if (first < 0) {
                token = END;
            } else if (isLetter(first)) {
                takeWord();
            } else if (isDigit(first)) {
                takeNumber();
            } else {
                next++;
                token = isSign(first) ? first : NO_TOKEN;
            }
        }

        private void takeWord() {
            long letters = 0;
            for (int i = 0; i < MOST_BYTES && isLetter(byteAt(next)); i++) {
                letters = i < LONGEST_WORD ? letters * 32 + byteAt(next) - 'a' + 1 : NO;
                next++;
            }
            token = NO_TOKEN;
            for (int i = 0; i < words.length; i++) {
                token = words[i] == letters ? FIRST_WORD + i : token;
            }
        }

        private void takeNumber() {
            number = 0;
            for (int i = 0; i < MOST_BYTES && isDigit(byteAt(next)); i++) {
                number = i < 4 ? 10 * number + byteAt(next) - '0' : number;
                next++;
            }
            token = next - place > 4 ? NO_TOKEN : NUMBER;
        }

        private static boolean isBlank(int b) {
            return b == 32 || b == 10;
        }

        private static boolean isLetter(int b) {
            return b >= 'a' && b <= 'z';
        }

        private static boolean isDigit(int b) {
            return b >= '0' && b <= '9';
        }

        private static boolean isSign(int b) {
            return b == '(' || b == ')' || b == ';' || b == '+' || b == '-' || b == '*' || b == '<' || b == '=';
        }
    }

    private static final class Sheet {
        final int[] cells = new int[MOST_CELLS];
        int sort = MISSING;
        int size = 0;

        void begin(int newSort, int newSize) {
            sort = newSort;
            size = bounded(newSize, 0, cells.length);
            for (int i = 0; i < cells.length; i++) {
                cells[i] = 0;
            }
        }

        boolean isMissing() {
            return sort == MISSING;
        }

        boolean has(int i) {
            return i >= 0 && i < size && i < cells.length;
        }

        boolean hasRow(int i, int n) {
            return n >= 0 && n <= size && i >= 0 && i <= size - n;
        }

        int get(int i) {
            return has(i) ? cells[i] : 0;
        }

        void put(int i, int v) {
            if (has(i)) {
                cells[i] = sort == 0 ? (byte) v : sort == 1 ? (short) v : v;
            }
        }
    }
}
