import java.math.BigInteger;

/**
 * Each sentence of the document that names a boundary case, in the document's order (the number ahead of a line is the promise's):
 * both ends of each range, the nearest numbers outside with their refusal, what is empty, full, comes to a bound or wraps around,
 * and that what is refused or only asked changes nothing.
 */
public final class BoundaryRuns {
    private static final int BAD = RoundAndRound.BAD, STATE = RoundAndRound.STATE, FULL = RoundAndRound.FULL;
    private static final int NOTHING = -11, OUTSIDE = -12, UNLIKE = -13, BELOW = -14;
    private static final int NO_HEAD = -100005, ILL = -100007, NOBODY = -5, ILL_TOLD = -7;
    private static final int MIN = Integer.MIN_VALUE, MAX = Integer.MAX_VALUE;
    private static final long NO = -4611686018427387904L;
    /** A turn builds 100, half of it fades, a second bends half of what is left. */
    private static final String HALVES = "builds 100;fades 50;bends 500;";
    private static final int[] NO_HEADS = {-1, 3, 4, 5, MIN, MAX};
    private static final int[] NO_TURNS = {-41, 41, MIN, MAX};
    private static final int[] NO_PACES = {0, 10, -1, MIN, MAX};
    private static final int[] NO_SECONDS = {-1, 61, MIN, MAX};
    private static final int[] NO_SPEED_PACES = {0, 1, 9, 10, 20, 90, 100, 101, 109, 111, 119, -1, -11, -99, MIN, MAX};
    private static final int[] SPEED_PACES = {11, 19, 91, 99};
    private static final int[] NO_SHEETS = {-1, 4, MIN, MAX};
    private static int wrong = 0;
    private static String untouched = "";

    /** A call on an object, and what it answers. */
    private interface Call {
        long on(RoundAndRound x);
    }

    public static void main(String[] args) {
        untouched = all(rich());
        newObject();
        counts();
        feeds();
        feedsFull();
        texts();
        tokens();
        grammar();
        openOnes();
        textsFull();
        textsBehindFaults();
        forces();
        asksRefused();
        asksSaid();
        wrapping();
        heads();
        sets();
        tolds();
        turns();
        turnsBounded();
        kindsBuild();
        kindsFade();
        rests();
        walks();
        walksBounded();
        walksDown();
        kindsFall();
        ups();
        ends();
        stands();
        undoes();
        fines();
        races();
        eyesOpen();
        wins();
        paces();
        roses();
        judges();
        turneds();
        kinds();
        laws();
        whoses();
        films();
        drawns();
        odds();
        images();
        backs();
        sheets();
        cells();
        cellsCut();
        copies();
        headsBy();
        taken();
        lastOnesTried();
        lastOnesTold();
        lastOnesTruly();
        System.out.println(wrong == 0 ? "all answers are as due" : wrong + " answers are not as due");
        if (wrong != 0) {
            System.exit(1);
        }
    }

    // ---- helps

    private static void due(String call, long got, long want) {
        if (got != want) {
            wrong++;
            System.out.println(call + " answered " + got + ", due is " + want);
        }
    }

    /** The call answers so on a rich object, and all that can be seen of it is as without the call. */
    private static void still(String label, long want, Call call) {
        RoundAndRound x = rich();
        due(label, call.on(x), want);
        String seen = all(x);
        if (!seen.equals(untouched)) {
            wrong++;
            System.out.println(label + " changed something:\n  " + untouched + "\n  " + seen);
        }
    }

    private static void feedAll(RoundAndRound x, String text) {
        for (int i = 0; i < text.length(); i += 5) {
            int[] b = new int[5];
            int n = Math.min(5, text.length() - i);
            for (int j = 0; j < n; j++) {
                b[j] = text.charAt(i + j);
            }
            x.feed(n, b[0], b[1], b[2], b[3], b[4]);
        }
    }

    private static int read(RoundAndRound x, String text) {
        feedAll(x, text);
        return x.text();
    }

    /** An object whose law is that text, with one HEAD. */
    private static RoundAndRound by(String text, int kind, int more) {
        RoundAndRound x = new RoundAndRound();
        due("text of " + text, read(x, text), 1);
        x.force(1);
        x.head(kind, more);
        return x;
    }

    private static int saidOf(String builds) {
        return by("builds " + builds + ";fades 0;bends 0;", 0, 0).asks(0, 0, 0);
    }

    /**
     * Three HEADS with nothing at 0 but the first one's SENSE, the second one DOWN; three TEXTS, HALVES THE LAW; a TAPE that lacks one
     * byte; AN IMAGE of other numbers; SHEETS 0 (ints), 1 (shorts), 2 (bytes) with 25, 37, 43, as many as are in them, 3 missing.
     */
    private static RoundAndRound rich() {
        RoundAndRound x = new RoundAndRound();
        read(x, HALVES);
        read(x, "builds speed;fades used-2;bends cake*100+eyes;");
        x.head(0, 3);
        x.head(4, 2);
        x.head(5, 9);
        for (int h = 0; h < 3; h++) {
            x.set(h, 0, 300 + h);
            x.walk(h, 1, 21);
            x.set(h, 1, 1 + h);
            x.set(h, 2, 11 + h);
        }
        x.image();
        x.force(1);
        x.set(0, 0, 75);
        x.walk(0, 1, 31);
        x.set(0, 0, 0);
        x.set(0, 1, 4);
        x.set(0, 2, 2);
        x.set(1, 0, -600);
        x.walk(1, 1, 11);
        x.set(1, 1, 9);
        x.set(1, 2, 99);
        x.set(2, 0, 10);
        x.film(0, 0, 1, 11, 3);
        x.sheet(1, 1, 2);
        x.cell(1, 0, 25);
        x.cell(1, 1, 37);
        x.sheet(2, 0, 1);
        x.cell(2, 0, 25);
        feedAll(x, "builds 7;fades 8;bends 9");
        return x;
    }

    /** What a rich object answers to whatever shows something of it; it is changed by that. */
    private static String all(RoundAndRound x) {
        StringBuilder seen = new StringBuilder();
        heads(x, seen);
        for (int s = 0; s < 4; s++) {
            seen.append(" S").append(x.judge(s, 0, 1, 11));
            for (int sort = 0; sort < 3; sort++) {
                seen.append(' ').append(x.headsBy(s, sort, 0, 0));
            }
            for (int i : new int[] {0, 1, 2, 3, 4, 40, 41}) {
                seen.append(' ').append(x.copy(s, i, s, 0, 0));
            }
        }
        seen.append(" T").append(x.feed(1, ';', 0, 0, 0, 0)).append(' ').append(x.text());
        for (int t = 0; t < 5; t++) {
            seen.append(" L").append(x.force(t));
            for (int part = 0; part < 3; part++) {
                seen.append(' ').append(x.asks(part, 0, 31));
            }
        }
        seen.append(" B").append(x.back());
        heads(x, seen);
        return seen.toString();
    }

    private static void heads(RoundAndRound x, StringBuilder seen) {
        for (int what = 0; what < 4; what++) {
            seen.append(' ').append(x.count(what));
        }
        for (int h = 0; h < 5; h++) {
            seen.append(" H");
            for (int what = 0; what < 9; what++) {
                seen.append(' ').append(x.told(h, what));
            }
        }
    }

    // ---- the law

    private static void newObject() {
        RoundAndRound x = new RoundAndRound();
        due("1: no HEADS", x.count(0), 0);
        for (int h = -1; h <= 5; h++) {
            int nobody = h;
            due("1: told of " + h, x.told(nobody, 0), NO_HEAD);
        }
        due("1: TEXT 0", x.count(1), 1);
        due("1: THE LAW", x.count(2), 0);
        due("1: an empty TAPE", x.count(3), 0);
        due("1: no IMAGE", x.back(), STATE);
        for (int s = 0; s < 4; s++) {
            due("1: no SHEET " + s, x.copy(s, 0, s, 0, 0), NOTHING);
        }
        due("1: the first HEAD", x.head(0, 0), 0);
        for (int speed = 0; speed <= 9; speed++) {
            due("1: TEXT 0 builds by speed " + speed, x.asks(0, 0, 10 * speed), 20 + 10 * speed);
        }
        due("1: TEXT 0 fades", x.asks(1, 0, 0), 10);
        due("1: TEXT 0 bends", x.asks(2, 0, 0), 100);
        due("1: NONE", RoundAndRound.NONE, -1);
        due("1: BAD", BAD, -2);
        due("1: STATE", STATE, -3);
        due("1: FULL", FULL, -4);
        due("1: NO", RoundAndRound.NO, NO);
    }

    private static void counts() {
        int[] due = {3, 3, 1, 24};
        for (int what = 0; what < 4; what++) {
            int part = what;
            still("2: count " + what, due[what], x -> x.count(part));
        }
        for (int what : new int[] {-1, 4, MIN, MAX}) {
            still("2: count " + what, BAD, x -> x.count(what));
        }
    }

    private static void feeds() {
        for (int n : new int[] {-1, 0, 6, MIN, MAX}) {
            still("3: n " + n, BAD, x -> x.feed(n, ';', ';', ';', ';', ';'));
        }
        for (int b : new int[] {-1, 256, MIN, MAX}) {
            still("3: a " + b, BAD, x -> x.feed(1, b, ';', ';', ';', ';'));
            still("3: b " + b, BAD, x -> x.feed(1, ';', b, ';', ';', ';'));
            still("3: c " + b, BAD, x -> x.feed(1, ';', ';', b, ';', ';'));
            still("3: d " + b, BAD, x -> x.feed(1, ';', ';', ';', b, ';'));
            still("3: e " + b, BAD, x -> x.feed(1, ';', ';', ';', ';', b));
            still("3: e of five " + b, BAD, x -> x.feed(5, ';', ';', ';', ';', b));
        }
        RoundAndRound x = new RoundAndRound();
        due("3: n 1", x.feed(1, 'a', 'b', 'c', 'd', 'e'), 1);
        due("3: n 5", x.feed(5, 0, 0, 255, 255, 0), 6);
        due("3: n 2", x.feed(2, 255, 0, 255, 0, 255), 8);
        due("3: n 3", x.feed(3, 0, 0, 0, 0, 0), 11);
        due("3: n 4", x.feed(4, 255, 255, 255, 255, 255), 15);
        due("3: in their order, the first n alone, behind one another", fedSo(new int[] {1, 2, 3, 4, 5}), 1);
        due("3: in their order, the first n alone, the other way", fedSo(new int[] {5, 4, 3, 2, 1}), 1);
    }

    /** Feeds a text by those many at once, what is beyond them filled with a byte that begins no TOKEN. */
    private static int fedSo(int[] many) {
        String text = "builds 10;fades 20;bends 30 ; ";
        RoundAndRound x = new RoundAndRound();
        int at = 0;
        for (int turn = 0; turn < 2; turn++) {
            for (int n : many) {
                int[] b = {'!', '!', '!', '!', '!'};
                for (int j = 0; j < n; j++) {
                    b[j] = text.charAt(at + j);
                }
                at += n;
                due("3: fed " + n, x.feed(n, b[0], b[1], b[2], b[3], b[4]), at);
            }
        }
        return x.text();
    }

    private static void feedsFull() {
        String text = "builds 1;fades 2;bends 3;";
        for (int room = 0; room <= 5; room++) {
            RoundAndRound x = new RoundAndRound();
            feedAll(x, text + " ".repeat(160 - room - text.length()));
            due("3: room " + room, x.count(3), 160 - room);
            for (int n = room + 1; n <= 5; n++) {
                due("3: no room for " + n + " of " + room, x.feed(n, ';', ';', ';', ';', ';'), FULL);
                due("3: BAD ahead of FULL " + n, x.feed(n, ';', ';', ';', ';', 256), BAD);
                due("3: none came, room " + room, x.count(3), 160 - room);
            }
            due("3: n 6, BAD ahead of FULL", x.feed(6, ';', ';', ';', ';', ';'), BAD);
            due("3: n 0, BAD ahead of FULL", x.feed(0, ';', ';', ';', ';', ';'), BAD);
            if (room > 0) {
                due("3: just so much room, " + room, x.feed(room, ' ', 10, ' ', 10, ' '), 160);
            }
            due("3: none of ; came, room " + room, x.text(), 1);
            due("3: room again", x.feed(5, 1, 2, 3, 4, 5), 5);
        }
    }

    /** The place of the FAULT; -1 if there is none. */
    private static int fault(String text) {
        RoundAndRound x = new RoundAndRound();
        int answer = read(x, text);
        due("4: THE TAPE is empty behind " + text, x.count(3), 0);
        due("4: TEXTS behind " + text, x.count(1), answer > 0 ? 2 : 1);
        due("4: THE LAW stays behind " + text, x.count(2), 0);
        return answer == 1 ? -1 : -100 - answer;
    }

    private static void texts() {
        due("4: an empty TAPE", fault(""), 0);
        due("4: a blank", fault(" "), 1);
        due("4: blanks 32, 10 alone", fault(" \n"), 2);
        String text = "builds 1;fades 2;bends 3;";
        due("4: a text", fault(text), -1);
        for (int size = 0; size < text.length(); size++) {
            String early = text.substring(0, size);
            boolean torn = size > 0 && Character.isLetter(text.charAt(size - 1)) && Character.isLetter(text.charAt(size));
            int word = size < 9 ? 0 : size < 17 ? 9 : 17;
            due("4: ends too early: " + early, fault(early), torn ? word : size);
            if (!torn) {
                due("4: ends too early, a blank: " + early, fault(early + " "), size + 1);
            }
        }
        due("4: more behind a text", fault(text + ";"), 25);
        due("4: more behind a text and a blank", fault(text + " builds"), 26);
        due("4: blanks behind a text", fault(text + " \n \n"), -1);
        due("4: 160 bytes", fault(text + " ".repeat(135)), -1);
        due("4: 160 bytes, the last a TOKEN", fault(" ".repeat(135) + text), -1);
        due("4: 160 bytes, the last a FAULT", fault(text + " ".repeat(134) + "1"), 159);
        due("4: 160 bytes that end too early", fault(" ".repeat(136) + text.substring(0, 24)), 160);
        due("4: 160 blanks", fault(" ".repeat(160)), 160);
        due("4: a WORD of 160", fault("a".repeat(160)), 0);
        due("4: a NUMBER of 100", fault("builds 1+" + "1".repeat(100)), 9);
        due("4: 160 signs", fault(";".repeat(160)), 0);
        due("4: the first of two FAULTS", fault("builds 1 1 !"), 9);
        due("4: the first FAULT, the TAPE ends too early behind it", fault("builds ! "), 7);
    }

    private static void tokens() {
        for (int b = 0; b < 256; b++) {
            String sign = String.valueOf((char) b);
            String text = "builds 1" + sign + ";fades 1;bends 1;";
            boolean blank = b == 32 || b == 10;
            boolean digit = b >= '0' && b <= '9';
            boolean behind = b == '+' || b == '-' || b == '*' || b == '<' || b == '=' || b == ';';
            due("4: byte " + b + " behind an E", fault(text), blank || digit ? -1 : behind ? 9 : 8);
            due("4: byte " + b + " at first", fault(sign + "builds 1;fades 1;bends 1;"), blank ? -1 : 0);
            due("4: byte " + b + " at last", fault("builds 1;fades 1;bends 1;" + sign), blank ? -1 : 25);
        }
        due("4: A, ahead of a", fault("builds A;"), 7);
        due("4: a byte ahead of a", fault("builds `;"), 7);
        due("4: a byte behind z", fault("builds {;"), 7);
        due("4: a byte ahead of 0", fault("builds /;"), 7);
        due("4: a byte behind 9", fault("builds :;"), 7);
        due("4: four digits", saidOf("0999"), 999);
        due("4: one digit", saidOf("9"), 9);
        due("4: 9999", saidOf("9999-9000"), 999);
        due("4: five digits", fault("builds 99999;fades 1;bends 1;"), 7);
        due("4: five digits, the first 0", fault("builds 00001;fades 1;bends 1;"), 7);
        due("4: a NUMBER and a WORD", fault("builds 1cake;"), 8);
        due("4: a WORD and a NUMBER", fault("builds cake1;"), 11);
        due("4: NUMBERS with a blank between", fault("builds 11 11;"), 10);
        due("4: a WORD as long as can be", fault("builds cakeused;"), 7);
        due("4: a WORD too short", fault("build 1;"), 0);
        due("4: a KEY and a letter", fault("buildsa;"), 0);
        due("4: capitals", fault("BUILDS 1;"), 0);
        for (String name : new String[] {"speed", "cake", "used", "more", "sense", "eyes"}) {
            due("4: NAME " + name, fault("builds " + name + ";fades " + name + ";bends " + name + ";"), -1);
            due("4: half a NAME of " + name, fault("builds " + name.substring(1) + ";"), 7);
            due("4: more than a NAME of " + name, fault("builds " + name + "s;"), 7);
            due("4: NAME first, " + name, fault(name), 0);
        }
        for (String key : new String[] {"builds", "fades", "bends", "or", "and"}) {
            due("4: KEY for a ONE, " + key, fault("builds " + key + ";"), 7);
            due("4: KEY behind *, " + key, fault("builds 1*" + key + ";"), 9);
        }
        for (char c = 'a'; c <= 'z'; c++) {
            due("4: letter " + c + " behind a WORD", fault("builds cake" + c + ";"), 7);
            due("4: letter " + c + " ahead of a WORD", fault("builds " + c + "cake;"), 7);
        }
        for (String first : new String[] {"(", "-", "not ", "1+", "1-", "1*", "1<", "1=", "1 or ", "1 and ", "(1)", "cake "}) {
            due("4: no WORD behind " + first, fault("builds " + first + "x 1;fades 1;bends 1;"), 7 + first.length());
            due("4: no WORD alone behind " + first, fault("builds " + first + "x;fades 1;bends 1;"), 7 + first.length());
            due("4: no NUMBER behind " + first, fault("builds " + first + "12345 1;fades 1;bends 1;"), 7 + first.length());
            due("4: no byte behind " + first, fault("builds " + first + "? 1;fades 1;bends 1;"), 7 + first.length());
        }
        for (int part = 0; part < 3; part++) {
            String[] keys = {"builds 1;", "fades 1;", "bends 1;"};
            String ahead = part == 0 ? "" : part == 1 ? keys[0] : keys[0] + keys[1];
            due("4: no WORD for a KEY " + part, fault(ahead + "x 1;"), ahead.length());
            due("4: no WORD behind a KEY " + part, fault(ahead + keys[part].replace("1", "x")), ahead.length() + keys[part].length() - 2);
            due("4: no WORD for a ; " + part, fault(ahead + keys[part].replace(";", "x")), ahead.length() + keys[part].length() - 1);
            due("4: a NAME for a ; " + part, fault(ahead + keys[part].replace(";", "eyes")), ahead.length() + keys[part].length() - 1);
        }
        due("4: blanks between", fault("\n builds\n1\n;fades 1 ;bends( 1 ) ;\n"), -1);
        due("4: no blanks", fault("builds(1);fades(1);bends(1);"), -1);
    }

    private static void grammar() {
        String end = ";fades 1;bends 1;";
        String[] fine = {"1 or 1 or 1", "1 and 1 and 1", "not 1 or not 1 and not 1", "1<1", "1=1", "1+1-1+1", "1*1*1", "-1", "1- -1", "1*-1", "1--1",
            "(1<1)<(1=1)", "(1 or 1)*(not 1)", "-(1 or 1)", "not not 1", "not 1<1", "1<1 and 1=1 or 1<1", "(not 1)+1"};
        for (String e : fine) {
            due("4: E " + e, fault("builds " + e + end), -1);
            due("4: E of fades " + e, fault("builds 1;fades " + e + ";bends 1;"), -1);
            due("4: E of bends " + e, fault("builds 1;fades 1;bends " + e + ";"), -1);
        }
        String[] ill = {"", "1 or", "1 and", "not", "1<", "1=", "1+", "1-", "1*", "-", "(", "()", "(1", "1)", "or 1", "and 1", "<1", "=1", "+1", "*1",
            "1<1<1", "1=1=1", "1<1=1", "1+not 1", "1<not 1", "1*not 1", "-not 1", "1 not 1", "1 1", "1(1)", "(1)1", "(1)(1)", "1 or or 1", "1 or<1",
            "1<=1", "1==1", "1<+1", "1+*1", "1+ +1", "1**1", "(1;)", "((1)", "(1))"};
        int[] at = {0, 4, 5, 3, 2, 2, 2, 2, 2, 1, 1, 1, 2, 1, 0, 0, 0, 0, 0, 0,
            3, 3, 3, 2, 2, 2, 1, 2, 2, 1, 3, 3, 5, 4,
            2, 2, 2, 2, 3, 2, 2, 4, 3};
        for (int i = 0; i < ill.length; i++) {
            due("4: no E " + ill[i], fault("builds " + ill[i] + end), 7 + at[i]);
        }
        due("4: parts in another order", fault("fades 1;builds 1;bends 1;"), 0);
        due("4: a part twice", fault("builds 1;builds 1;"), 9);
        due("4: a part left out", fault("builds 1;bends 1;"), 9);
        due("4: no ; between parts", fault("builds 1 fades 1;"), 9);
        due("4: no ; at last", fault("builds 1;fades 1;bends 1"), 24);
        due("4: a ; at first", fault(";builds 1;"), 0);
    }

    /** The place behind so many of these at which a further one stands, or -1. */
    private static int faultOf(String opened, String closed, int many) {
        return fault("builds " + opened.repeat(many) + "1" + closed.repeat(many) + ";fades 1;bends 1;");
    }

    private static void openOnes() {
        due("4: five (", faultOf("(", ")", 5), -1);
        due("4: six (", faultOf("(", ")", 6), 7 + 5);
        due("4: five not", faultOf("not ", "", 5), -1);
        due("4: six not", faultOf("not ", "", 6), 7 + 20);
        due("4: five -", faultOf("-", "", 5), -1);
        due("4: six -", faultOf("-", "", 6), 7 + 5);
        String[] two = {"(-", "(not ", "-(", "not("};
        for (int i = 0; i < two.length; i++) {
            String end = "));fades 1;bends 1;";
            int at = 7 + 2 * two[i].length();
            due("4: five open, a (, " + two[i], fault("builds " + two[i].repeat(2) + "(1)" + end), -1);
            due("4: six open, a (, " + two[i], fault("builds " + two[i].repeat(2) + "((1))" + end), at + 1);
            due("4: six open, a -, " + two[i], fault("builds " + two[i].repeat(2) + "(-1)" + end), at + 1);
            due("4: six open, a not, " + two[i], fault("builds " + two[i].repeat(2) + "(not 1)" + end), at + 1);
        }
        String five = "(((((";
        due("4: a - behind a ONE while five are open", fault("builds " + five + "1-1)))));fades 1;bends 1;"), -1);
        due("4: a - ahead of a ONE while five are open", fault("builds " + five + "1--1)))));"), 14);
        due("4: five open, and one is closed", fault("builds " + five + "1)+(1)))));fades 1;bends 1;"), -1);
        due("4: five open, and one is closed, a -", fault("builds " + five + "1)+-1))));fades 1;bends 1;"), -1);
        due("4: five open, and one is closed, two", fault("builds " + five + "1)+-(1)))));"), 16);
        due("4: - ends with its ONE", fault("builds -1*-1*-1*-1*-1*-1*-1;fades 1;bends 1;"), -1);
        due("4: not ends with its NOT", fault("builds not 1 and not 1 and not 1 and not 1 and not 1 and not 1;fades 1;bends 1;"), -1);
        due("4: not lasts till its SUM ends", fault("builds not 1+((((1))));fades 1;bends 1;"), -1);
        due("4: not lasts till its SUM ends, six", fault("builds not 1+(((((1)))));"), 7 + 6 + 4);
        due("4: not lasts till what is behind < ends", fault("builds not 1<((((1))));fades 1;bends 1;"), -1);
        due("4: not lasts till what is behind < ends, six", fault("builds not 1<(((((1)))));"), 7 + 6 + 4);
        due("4: not has ended at an and", fault("builds not 1 and (((((1)))));fades 1;bends 1;"), -1);
        due("4: - has ended at a *", fault("builds -1*(((((1)))));fades 1;bends 1;"), -1);
        due("4: - lasts till its ( ) ends", fault("builds -(1)*(((((1)))));fades 1;bends 1;"), -1);
        due("4: each part begins with none open", fault("builds(((((1)))));fades(((((1)))));bends(((((1)))));"), -1);
    }

    private static void textsFull() {
        RoundAndRound x = new RoundAndRound();
        x.head(0, 0);
        for (int t = 1; t <= 5; t++) {
            due("4: a FAULT takes no number", read(x, "builds 1;fades 1;bends;"), -122);
            due("4: TEXT " + t, read(x, "builds " + t + ";fades 1" + t + ";bends 2" + t + ";"), t);
            due("4: how many", x.count(1), t + 1);
        }
        due("4: FULL, an empty TAPE", x.text(), FULL);
        x.feed(1, '!', 0, 0, 0, 0);
        due("4: FULL ahead of the FAULT", x.text(), FULL);
        due("4: THE TAPE stays", x.count(3), 1);
        due("4: FULL again", x.text(), FULL);
        due("4: THE TAPE stays again", x.count(3), 1);
        due("4: it can be fed", x.feed(5, 'a', 'b', 'c', 'd', 'e'), 6);
        due("4: six TEXTS", x.count(1), 6);
        due("4: THE LAW stays", x.count(2), 0);
        for (int t = 1; t <= 5; t++) {
            due("5: of six, THE LAW " + t, x.force(t), t - 1);
            due("4: TEXT " + t + " builds", x.asks(0, 0, 0), t);
            due("4: TEXT " + t + " fades", x.asks(1, 0, 0), 10 + t);
            due("4: TEXT " + t + " bends", x.asks(2, 0, 0), 20 + t);
        }
        due("5: none behind the last of six", x.force(6), BAD);
        due("5: THE LAW stays", x.count(2), 5);
    }

    /** What a FAULT left unread or half read counts for nothing in the TEXT that comes next. */
    private static void textsBehindFaults() {
        String[] faults = {"builds 1;fades 1;bends not not not 1", "builds 0;fades -1;bends -1*-1*0+", "builds not not 1+1-1*1<1 and 0 or 0;fades !",
            "builds (((((", "builds -----", "builds not not not not not", "builds ((((((1", "12345", "builds 7;fades 8;bends 9; 1"};
        for (String text : faults) {
            RoundAndRound x = new RoundAndRound();
            x.head(0, 0);
            due("4: a FAULT in " + text, read(x, text) <= -100 ? 1 : 0, 1);
            due("4: a TEXT behind " + text, read(x, "builds 5;fades 6;bends (((((7)))));"), 1);
            x.force(1);
            due("4: builds, behind " + text, x.asks(0, 0, 0), 5);
            due("4: fades, behind " + text, x.asks(1, 0, 0), 6);
            due("4: bends, behind " + text, x.asks(2, 0, 0), 7);
        }
    }

    private static void forces() {
        for (int t : new int[] {-1, 3, 4, 5, 6, MIN, MAX}) {
            still("5: TEXT " + t, BAD, x -> x.force(t));
        }
        still("5: THE LAW itself", 1, x -> x.force(1));
        RoundAndRound x = rich();
        due("5: the last", x.force(2), 1);
        due("5: THE LAW", x.count(2), 2);
        due("5: the first", x.force(0), 2);
        due("5: the first again", x.force(0), 0);
    }

    private static void asksRefused() {
        for (int part : new int[] {-1, 3, MIN, MAX}) {
            still("6: part " + part, BAD, x -> x.asks(part, 0, 11));
        }
        for (int h : NO_HEADS) {
            still("6: h " + h, BAD, x -> x.asks(0, h, 11));
        }
        for (int v : new int[] {-1, -9, -10, -11, 2, 9, 12, 19, 89, 92, 99, 100, 101, 110, MIN, MAX}) {
            still("6: speedEyes " + v, BAD, x -> x.asks(0, 0, v));
        }
        due("6: no HEADS", new RoundAndRound().asks(0, 0, 11), BAD);
        for (int part = 0; part < 3; part++) {
            int which = part;
            int[] due = {100, 50, 500};
            for (int v : new int[] {0, 1, 90, 91}) {
                still("6: part " + part + ", speedEyes " + v, due[part], x -> x.asks(which, 0, v));
                still("6: of the last HEAD " + v, due[part], x -> x.asks(which, 2, v));
            }
        }
    }

    private static void asksSaid() {
        RoundAndRound x = by("builds speed*10+eyes;fades used;bends cake*100+more*10+(0-sense);", 0, 9);
        int[] speedEyes = {0, 1, 10, 11, 80, 81, 90, 91};
        for (int v : speedEyes) {
            due("6: builds by speedEyes " + v, x.asks(0, 0, v), v);
        }
        due("6: fades 0", x.asks(1, 0, 0), 0);
        x.set(0, 2, 99);
        due("6: fades 99", x.asks(1, 0, 0), 99);
        due("6: bends by MORE 9", x.asks(2, 0, 0), 90);
        x.set(0, 1, 9);
        due("6: bends by CAKE 9", x.asks(2, 0, 0), 990);
        x.set(0, 0, -9);
        due("6: bends 999", x.asks(2, 0, 0), 999);
        x.set(0, 0, -10);
        due("6: bends 999 at most", x.asks(2, 0, 0), 999);
        x.set(0, 0, -9999);
        due("6: bends 999 at most by SENSE -9999", x.asks(2, 0, 0), 999);
        x.set(0, 0, 989);
        due("6: bends 1", x.asks(2, 0, 0), 1);
        x.set(0, 0, 990);
        due("6: bends 0", x.asks(2, 0, 0), 0);
        x.set(0, 0, 991);
        due("6: bends 0 at least", x.asks(2, 0, 0), 0);
        x.set(0, 0, 9999);
        due("6: bends 0 at least by SENSE 9999", x.asks(2, 0, 0), 0);
        int[] said = {-1, 0, 1, 99, 100, 101, 998, 999, 1000, 9999};
        for (int v : said) {
            String e = v < 0 ? "-" + -v : "" + v;
            RoundAndRound y = by("builds " + e + ";fades " + e + ";bends " + e + ";", 2, 9);
            due("6: builds " + v, y.asks(0, 0, 0), Math.max(0, Math.min(999, v)));
            due("6: fades " + v, y.asks(1, 0, 0), Math.max(0, Math.min(100, v)));
            due("6: bends " + v, y.asks(2, 0, 0), Math.max(0, Math.min(999, v)));
        }
    }

    /** An E is an int of 32 bits: what is 0 is false, all else true; its numbers wrap around. */
    private static void wrapping() {
        String least = "(2048*1024*1024)";
        String most = "(2048*1024*1024-1)";
        due("4: the least int is below 0", saidOf(least + "<0"), 1);
        due("4: the most is above 0", saidOf("0<" + most), 1);
        due("4: one more than the most is the least", saidOf(most + "+1=" + least), 1);
        due("4: one less than the least is the most", saidOf(least + "-1=" + most), 1);
        due("4: - the least is the least", saidOf("-" + least + "=" + least), 1);
        due("4: - the most is one more than the least", saidOf("-" + most + "=" + least + "+1"), 1);
        due("4: the least is less than the most", saidOf(least + "<" + most), 1);
        due("4: the most isn't less than the least", saidOf(most + "<" + least), 0);
        due("4: twice the most is -2", saidOf(most + "*2+3"), 1);
        due("4: twice the least is 0", saidOf(least + "*2=0"), 1);
        due("4: 2 to the 32nd is 0", saidOf("4096*1024*1024"), 0);
        due("4: 2 to the 32nd and 7", saidOf("4096*1024*1024+7"), 7);
        due("4: what is said is bounded behind the wrapping", saidOf(most), 999);
        due("4: what is said is bounded below, too", saidOf(least), 0);
        due("4: the least is true", saidOf(least + " and 1"), 1);
        due("4: -1 is true", saidOf("-1 and 1"), 1);
        due("4: 2 to the 32nd is false", saidOf("4096*1024*1024 or 0"), 0);
        due("4: not -1", saidOf("not -1"), 0);
        due("4: not 0", saidOf("not 0"), 1);
        due("4: or is 1", saidOf("5 or 7"), 1);
        due("4: and is 1", saidOf("5 and 7"), 1);
        due("4: 0 and 7", saidOf("0 and 7"), 0);
        due("4: 7 and 0", saidOf("7 and 0"), 0);
        due("4: 0 or 7", saidOf("0 or 7"), 1);
        due("4: 7 or 0", saidOf("7 or 0"), 1);
        due("4: 0 or 0", saidOf("0 or 0"), 0);
        for (String none : new String[] {"not 1", "not -1", "0 or 0", "0 and 1", "1 and 0", "1<0", "1=0", "0<0"}) {
            due("4: no less than 0 is " + none, saidOf("(" + none + ")+5"), 5);
        }
        for (String one : new String[] {"not 0", "7 or 0", "0 or -7", "7 and -7", "-7<7", "7=7", "-7=-7"}) {
            due("4: no more than 1 is " + one, saidOf("(" + one + ")+5"), 6);
        }
        due("4: 3<3", saidOf("3<3"), 0);
        due("4: 2<3", saidOf("2<3"), 1);
        due("4: 3<2", saidOf("3<2"), 0);
        due("4: 3=3", saidOf("3=3"), 1);
        due("4: 3=2", saidOf("3=2"), 0);
        due("4: 2=3", saidOf("2=3"), 0);
        due("4: from the left", saidOf("9-3-2"), 4);
        due("4: TERMS ahead of SUMS", saidOf("2+3*4"), 14);
        due("4: - ahead of *", saidOf("-3*-4"), 12);
        due("4: and ahead of or", saidOf("1 or 1 and 0"), 1);
        due("4: not ahead of and", saidOf("not 1 and 0"), 0);
        due("4: not behind <", saidOf("not 2<1"), 1);
        due("4: SUMS ahead of <", saidOf("1+1<3"), 1);
    }

    // ---- heads

    private static void heads() {
        for (int kind : new int[] {-1, 6, MIN, MAX}) {
            still("7: kind " + kind, BAD, x -> x.head(kind, 0));
        }
        for (int more : new int[] {-1, 10, MIN, MAX}) {
            still("7: more " + more, BAD, x -> x.head(0, more));
        }
        int[][] made = {{0, 0}, {5, 9}, {0, 9}, {5, 0}, {3, 5}};
        RoundAndRound x = new RoundAndRound();
        for (int i = 0; i < made.length; i++) {
            due("7: a HEAD of " + made[i][0] + ", " + made[i][1], x.head(made[i][0], made[i][1]), i);
            due("7: how many", x.count(0), i + 1);
            due("7: none behind it", x.told(i + 1, 0), NO_HEAD);
            due("7: KIND", x.told(i, 0), made[i][0]);
            due("7: MORE", x.told(i, 1), made[i][1]);
            for (int what = 2; what <= 7; what++) {
                due("7: as one comes, " + what, x.told(i, what), 0);
            }
        }
        due("7: FULL", x.head(0, 0), FULL);
        due("7: BAD ahead of FULL, kind", x.head(6, 0), BAD);
        due("7: BAD ahead of FULL, more", x.head(0, 10), BAD);
        due("7: five", x.count(0), 5);
        due("7: no sixth", x.told(5, 0), NO_HEAD);
        due("7: the last stays", x.told(4, 0), 3);
    }

    private static void sets() {
        for (int h : NO_HEADS) {
            still("8: h " + h, NO_HEAD, x -> x.set(h, 0, 0));
            still("8: h " + h + " ahead of what, v", NO_HEAD, x -> x.set(h, 3, 10000));
        }
        for (int what : new int[] {-1, 3, 4, 5, MIN, MAX}) {
            still("8: what " + what, ILL, x -> x.set(0, what, 0));
        }
        int[] low = {-9999, 0, 0};
        int[] high = {9999, 9, 99};
        int[] were = {-600, 9, 99};
        for (int what = 0; what < 3; what++) {
            int part = what;
            int below = low[what] - 1;
            int above = high[what] + 1;
            for (int v : new int[] {below, above, MIN, MAX}) {
                still("8: what " + what + ", v " + v, ILL, x -> x.set(1, part, v));
            }
            still("8: what it is, " + what, were[what], x -> x.set(1, part, were[part]));
            RoundAndRound x = rich();
            due("8: lowest of " + what, x.set(1, what, low[what]), were[what]);
            due("8: told lowest of " + what, x.told(1, 2 + what), low[what]);
            due("8: highest of " + what, x.set(1, what, high[what]), low[what]);
            due("8: told highest of " + what, x.told(1, 2 + what), high[what]);
            due("8: back to what it was, " + what, x.set(1, what, were[what]), high[what]);
            due("8: nothing else is set by what " + what, all(x).equals(untouched) ? 1 : 0, 1);
        }
        due("8: no HEADS", new RoundAndRound().set(0, 0, 0), NO_HEAD);
    }

    private static void tolds() {
        for (int h : NO_HEADS) {
            still("9: h " + h, NO_HEAD, x -> x.told(h, 0));
            still("9: h " + h + " ahead of what", NO_HEAD, x -> x.told(h, 9));
        }
        for (int what : new int[] {-1, 9, MIN, MAX}) {
            still("9: what " + what, ILL, x -> x.told(0, what));
        }
        int[][] due = {{0, 3, 0, 4, 2, 5, 67, 0, 800}, {4, 2, -600, 9, 99, 2, 30, 1, 400}, {5, 9, 10, 3, 13, 2, 30, 0, 800}};
        for (int h = 0; h < 3; h++) {
            for (int what = 0; what < 9; what++) {
                int one = h;
                int part = what;
                still("9: told " + h + ", " + what, due[h][what], x -> x.told(one, part));
            }
        }
        RoundAndRound x = new RoundAndRound();
        due("9: no HEADS", x.told(0, 0), NO_HEAD);
        for (int h = 0; h < 5; h++) {
            x.head(h, 0);
        }
        due("9: the fifth", x.told(4, 0), 4);
        due("9: no sixth", x.told(5, 0), NO_HEAD);
    }

    // ---- turning, waiting, walking

    private static void turns() {
        for (int h : NO_HEADS) {
            still("10: h " + h, NO_HEAD, x -> x.turn(h, 1, 1));
            still("10: h " + h + " ahead of n, speed", NO_HEAD, x -> x.turn(h, 41, 0));
        }
        for (int n : NO_TURNS) {
            still("10: n " + n, ILL, x -> x.turn(0, n, 1));
        }
        for (int speed : NO_PACES) {
            still("10: speed " + speed, ILL, x -> x.turn(0, 1, speed));
            still("10: n 0, speed " + speed, ILL, x -> x.turn(0, 0, speed));
        }
        due("10: no HEADS", new RoundAndRound().turn(0, 1, 1), NO_HEAD);
        int[] n = {-40, -39, -1, 0, 1, 39, 40};
        for (int many : n) {
            for (int speed : new int[] {1, 9}) {
                RoundAndRound x = by("builds speed*10;fades 0;bends 0;", 0, 0);
                due("10: n " + many + ", speed " + speed, x.turn(0, many, speed), 10 * many * speed);
                due("10: SENSE " + many, x.told(0, 2), 10 * many * speed);
                due("10: USED " + many, x.told(0, 4), 1);
            }
        }
        RoundAndRound x = rich();
        due("10: also one who is DOWN", x.turn(1, 1, 1), -419);
        due("10: still DOWN", x.told(1, 7), 1);
        due("10: USED 99 at most", x.told(1, 4), 99);
        x.set(0, 2, 98);
        due("10: USED 99", x.turn(0, 0, 1), 0);
        due("10: USED 99, told", x.told(0, 4), 99);
        x.turn(0, 0, 1);
        due("10: USED 99 still", x.told(0, 4), 99);
        int[] others = {0, 3, 0, 4, 99, 5, 67, 0};
        for (int what = 0; what < others.length; what++) {
            due("10: nothing else turns, " + what, x.told(0, what), others[what]);
        }
        RoundAndRound y = by("builds eyes*100;fades eyes*50+speed;bends 0;", 0, 0);
        due("10: eyes open, fades by speed 0", y.turn(0, 1, 9), 50);
        due("10: to the left", y.turn(0, -2, 9), -63);
        due("10: n 0 fades nothing", y.turn(0, 0, 9), -63);
        RoundAndRound z = by("builds used;fades 0;bends 0;", 0, 0);
        due("10: USED is 1 more behind the turns", z.turn(0, 40, 1), 0);
        due("10: by USED 1", z.turn(0, 40, 1), 40);
    }

    private static void turnsBounded() {
        RoundAndRound x = by("builds 999;fades 0;bends 0;", 0, 0);
        int[] from = {8999, 9000, 9001, 9999};
        int[] to = {9998, 9999, 9999, 9999};
        for (int i = 0; i < from.length; i++) {
            x.set(0, 0, from[i]);
            due("10: 999 more than " + from[i], x.turn(0, 1, 1), to[i]);
            x.set(0, 0, -from[i]);
            due("10: 999 less than -" + from[i], x.turn(0, -1, 1), -to[i]);
        }
        x.set(0, 0, -9999);
        due("10: from bound to bound", x.turn(0, 40, 9), 9999);
        due("10: and to the left", x.turn(0, -40, 9), -9999);
        RoundAndRound y = by("builds 999;fades 50;bends 0;", 0, 0);
        y.set(0, 0, 9999);
        due("10: the bound comes ahead of what fades", y.turn(0, 1, 1), 5000);
        y.set(0, 0, -9999);
        due("10: that bound, too", y.turn(0, -1, 1), -5000);
        RoundAndRound z = by("builds 1+(sense=0)*998;fades sense=999;bends 0;", 0, 0);
        due("10: SENSE as it is then, of 0", z.turn(0, 1, 1), 990);
        due("10: of 990", z.turn(0, 9, 1), 990);
        RoundAndRound w = by("builds 100;fades 100;bends 0;", 0, 0);
        w.set(0, 0, 9999);
        due("10: all fades", w.turn(0, 1, 1), 0);
    }

    private static int built(int kind, int more, int said, int speed) {
        return by("builds " + said + ";fades 0;bends 0;", kind, more).turn(0, 1, speed);
    }

    /** Of a SMALL one 5 of a hundred fade even if the text says 0, of a QUEASY one 1. */
    private static int leftOf(int kind, int builds) {
        return builds - builds * (kind == 2 ? 5 : 1) / 100;
    }

    private static void kindsBuild() {
        int[] said = {0, 1, 2, 3, 4, 998, 999};
        for (int v : said) {
            for (int more : new int[] {0, 9}) {
                for (int speed : new int[] {1, 4, 5, 9}) {
                    String of = " of " + v + ", MORE " + more + ", SPEED " + speed;
                    due("10: kind 0 builds" + of, built(0, more, v, speed), v);
                    due("10: kind 1 builds" + of, built(1, more, v, speed), v / 2);
                    due("10: kind 3 builds" + of, built(3, more, v, speed), speed > 4 ? v / 4 : v / 2);
                    due("10: kind 5 builds" + of, built(5, more, v, speed), v + speed * more);
                }
            }
            for (int kind : new int[] {2, 4}) {
                due("10: kind " + kind + " builds of " + v, built(kind, 0, v, 9), leftOf(kind, v));
                due("10: kind " + kind + " with MORE 9 builds of " + v, built(kind, 9, v, 9), leftOf(kind, v < 45 ? 0 : v - 45));
            }
        }
        for (int kind : new int[] {2, 4}) {
            due("10: kind " + kind + " builds 0", built(kind, 9, 45, 1), 0);
            due("10: kind " + kind + " builds 1", built(kind, 9, 46, 1), 1);
            due("10: kind " + kind + " builds 0 at least", built(kind, 9, 44, 1), 0);
            due("10: kind " + kind + " with MORE 1 builds 0", built(kind, 1, 5, 1), 0);
            due("10: kind " + kind + " with MORE 1 builds 0 at least", built(kind, 1, 4, 1), 0);
        }
        due("10: kind 5 builds 999 and 81", built(5, 9, 999, 9), 1080);
        due("10: kind 1 of what is bounded", built(1, 0, 1999, 1), 499);
        due("10: kind 5 of what is bounded", built(5, 1, 1999, 1), 1000);
        due("10: kind 2 of what is bounded", built(2, 1, 1999, 1), 994 - 49);
    }

    private static int faded(int kind, String said) {
        RoundAndRound x = by("builds 0;fades " + said + ";bends 0;", kind, 9);
        x.set(0, 0, 1000);
        return 1000 - x.rest(0, 1, 1);
    }

    private static void kindsFade() {
        int[] said = {0, 1, 3, 4, 94, 95, 96, 97, 100};
        int[] small = {5, 6, 8, 9, 99, 100, 100, 100, 100};
        int[] queasy = {1, 2, 2, 3, 33, 33, 33, 34, 35};
        for (int i = 0; i < said.length; i++) {
            String v = "" + said[i];
            for (int kind : new int[] {0, 1, 3, 5}) {
                due("11: kind " + kind + " fades " + v, faded(kind, v), 10 * said[i]);
            }
            due("11: kind 2 fades " + v, faded(2, v), 10 * small[i]);
            due("11: kind 4 fades " + v, faded(4, v), 10 * queasy[i]);
        }
        due("11: fades 0 at least", faded(0, "-1"), 0);
        due("11: fades 100 at most", faded(0, "101"), 1000);
        due("11: kind 2 of what is bounded below", faded(2, "-9"), 50);
        due("11: kind 2, 100 at most", faded(2, "101"), 1000);
        due("11: kind 4 of what is bounded below", faded(4, "-9"), 10);
        due("11: kind 4 of what is bounded above", faded(4, "999"), 350);
    }

    private static void rests() {
        for (int h : NO_HEADS) {
            still("11: h " + h, NO_HEAD, x -> x.rest(h, 1, 1));
            still("11: h " + h + " ahead of seconds, eyes", NO_HEAD, x -> x.rest(h, 61, 2));
        }
        for (int seconds : NO_SECONDS) {
            still("11: seconds " + seconds, ILL, x -> x.rest(2, seconds, 1));
        }
        for (int eyes : new int[] {-1, 2, MIN, MAX}) {
            still("11: eyes " + eyes, ILL, x -> x.rest(2, 1, eyes));
            still("11: seconds 0, eyes " + eyes, ILL, x -> x.rest(2, 0, eyes));
        }
        still("11: seconds 0, eyes 1", 10, x -> x.rest(2, 0, 1));
        still("11: seconds 0, eyes 0", -600, x -> x.rest(1, 0, 0));
        due("11: no HEADS", new RoundAndRound().rest(0, 1, 1), NO_HEAD);
        RoundAndRound x = by("builds 0;fades 1+eyes*99;bends 0;", 0, 0);
        int[][] due = {{0, 0, 199}, {1, 0, 198}, {59, 0, 140}, {60, 0, 139}, {0, 1, 199}, {1, 1, 0}, {60, 1, 0}};
        for (int[] a : due) {
            x.set(0, 0, 199);
            due("11: seconds " + a[0] + ", eyes " + a[1], x.rest(0, a[0], a[1]), a[2]);
            due("11: SENSE then", x.told(0, 2), a[2]);
        }
        int[] sense = {9999, -9999, 99, -99, 100, -100, 1, -1, 0};
        int[] left = {9900, -9900, 99, -99, 99, -99, 1, -1, 0};
        for (int i = 0; i < sense.length; i++) {
            x.set(0, 0, sense[i]);
            due("11: cut toward 0, of " + sense[i], x.rest(0, 1, 0), left[i]);
        }
        RoundAndRound y = rich();
        due("11: one who is DOWN", y.rest(1, 1, 1), -492);
        int[] others = {4, 2, -492, 9, 99, 2, 30, 1};
        for (int what = 0; what < others.length; what++) {
            due("11: nothing else waits, " + what, y.told(1, what), others[what]);
        }
    }

    private static void walks() {
        for (int h : NO_HEADS) {
            still("12: h " + h, NO_HEAD, x -> x.walk(h, 1, 11));
            still("12: h " + h + " ahead of seconds, paceEyes", NO_HEAD, x -> x.walk(h, 61, 9));
        }
        for (int seconds : NO_SECONDS) {
            still("12: seconds " + seconds, ILL, x -> x.walk(0, seconds, 11));
        }
        for (int v : new int[] {-1, -10, -11, -91, 0, 1, 2, 9, 12, 19, 89, 92, 99, 100, 101, MIN, MAX}) {
            still("12: paceEyes " + v, ILL, x -> x.walk(0, 1, v));
            still("12: seconds 0, paceEyes " + v, ILL, x -> x.walk(0, 0, v));
        }
        for (int v : new int[] {10, 11, 90, 91}) {
            still("12: seconds 0, paceEyes " + v, 67, x -> x.walk(0, 0, v));
            still("12: one who is DOWN, paceEyes " + v, 30, x -> x.walk(1, 60, v));
        }
        due("12: no HEADS", new RoundAndRound().walk(0, 1, 11), NO_HEAD);
        for (int seconds : new int[] {0, 1, 59, 60}) {
            for (int v : new int[] {10, 11, 20, 81, 90, 91}) {
                RoundAndRound x = by("builds 0;fades 0;bends eyes*100+speed*10;", 0, 0);
                x.set(0, 0, 100);
                due("12: seconds " + seconds + ", paceEyes " + v, x.walk(0, seconds, v), seconds * (v / 10 + v % 10 * 10));
                due("12: ASIDE " + seconds + ", " + v, x.told(0, 6), seconds * (v / 10 + v % 10 * 10));
                due("12: ALONG " + seconds + ", " + v, x.told(0, 5), seconds * (v / 10));
                due("12: SENSE " + seconds + ", " + v, x.told(0, 2), 100);
            }
        }
        RoundAndRound y = by("builds 0;fades 50+eyes*10+speed;bends 0;", 0, 0);
        y.set(0, 0, 100);
        y.walk(0, 1, 90);
        due("12: fades by speed 0, eyes shut", y.told(0, 2), 50);
        y.walk(0, 1, 91);
        due("12: fades by speed 0, eyes open", y.told(0, 2), 20);
        due("12: USED stays", y.told(0, 4), 0);
    }

    private static void walksBounded() {
        RoundAndRound x = by("builds 0;fades 0;bends 999;", 1, 9);
        for (int i = 0; i < 185; i++) {
            x.walk(0, 60, 91);
        }
        due("12: ALONG", x.told(0, 5), 99900);
        x.walk(0, 10, 91);
        due("12: ALONG yet", x.told(0, 5), 99990);
        x.walk(0, 1, 81);
        due("12: ALONG a little below", x.told(0, 5), 99998);
        x.walk(0, 1, 11);
        due("12: ALONG at the bound", x.told(0, 5), 99999);
        x.walk(0, 1, 11);
        due("12: ALONG 99999 at most", x.told(0, 5), 99999);
        x.set(0, 0, 100);
        due("12: ASIDE goes on", x.walk(0, 2, 91), 198);
        due("12: ALONG stays so", x.told(0, 5), 99999);
        due("12: up", x.up(0), 198);
        for (int side : new int[] {1, -1}) {
            x.up(0);
            x.set(0, 0, side * 979);
            for (int i = 0; i < 102; i += 6) {
                due("12: ASIDE " + side * i, x.walk(0, 6, 11), side * 978 * (i + 6));
            }
            x.set(0, 0, side * 243);
            due("12: ASIDE a little off", x.walk(0, 1, 11), side * (978 * 102 + 242));
            x.set(0, 0, -side * 1);
            due("12: of 1, cut toward 0", x.walk(0, 1, 11), side * 99998);
            x.set(0, 0, side * 2);
            due("12: ASIDE at the bound", x.walk(0, 1, 11), side * 99999);
            due("12: ASIDE, else the bound", x.walk(0, 1, 11), side * 99999);
            x.set(0, 0, side * 979);
            due("12: ASIDE far beyond, the bound", x.walk(0, 60, 91), side * 99999);
            x.set(0, 0, -side * 2);
            due("12: ASIDE back from the bound", x.walk(0, 1, 11), side * 99998);
            due("12: up from there", x.up(0), side * 99998);
        }
    }

    private static void walksDown() {
        RoundAndRound x = by("builds 0;fades 1;bends 100;", 0, 0);
        int[] sense = {799, -799, 800, -800, 801, 9999, -9999};
        for (int v : sense) {
            boolean falls = Math.abs(v) >= 800;
            x.up(0);
            x.set(0, 0, v);
            due("12: ASIDE of " + v, x.walk(0, 1, 21), falls ? 0 : v / 10);
            due("12: DOWN of " + v, x.told(0, 7), falls ? 1 : 0);
            due("12: ALONG of " + v, x.told(0, 5), falls ? 0 : 2);
            due("12: SENSE of " + v, x.told(0, 2), falls ? v : v - v / 100);
            x.walk(0, 0, 11);
            due("12: no seconds, DOWN as before", x.told(0, 7), falls ? 1 : 0);
        }
        x.set(0, 0, 0);
        due("12: one who is DOWN stays so", x.walk(0, 60, 91), 0);
        due("12: DOWN", x.told(0, 7), 1);
        due("12: nothing happens, ALONG", x.told(0, 5), 0);
        x.set(0, 0, 500);
        x.walk(0, 60, 91);
        due("12: nothing happens, SENSE", x.told(0, 2), 500);
        x.up(0);
        x.set(0, 0, 800);
        x.walk(0, 0, 11);
        due("12: none falls in no seconds", x.told(0, 7), 0);
        x.rest(0, 1, 1);
        x.walk(0, 1, 11);
        due("12: nor from less", x.told(0, 7), 0);
    }

    private static void kindsFall() {
        for (int kind = 0; kind < 6; kind++) {
            for (int more : new int[] {0, 1, 9}) {
                int falls = kind == 4 ? 400 : kind == 1 || kind == 3 ? 800 + 20 * more : 800;
                RoundAndRound x = by("builds 0;fades 0;bends 0;", kind, more);
                due("9: kind " + kind + ", MORE " + more, x.told(0, 8), falls);
                for (int side : new int[] {1, -1}) {
                    x.up(0);
                    x.set(0, 0, side * (falls - 1));
                    x.walk(0, 60, 11);
                    due("12: kind " + kind + ", MORE " + more + " stands", x.told(0, 7), 0);
                    x.set(0, 0, side * falls);
                    x.walk(0, 1, 11);
                    due("12: kind " + kind + ", MORE " + more + " falls", x.told(0, 7), 1);
                }
            }
        }
    }

    private static void ups() {
        for (int h : NO_HEADS) {
            still("13: h " + h, NO_HEAD, x -> x.up(h));
        }
        due("13: no HEADS", new RoundAndRound().up(0), NO_HEAD);
        RoundAndRound x = rich();
        int[][] due = {{0, 3, 0, 4, 2, 0, 0, 0, 800}, {4, 2, -600, 9, 99, 0, 0, 0, 400}, {5, 9, 10, 3, 13, 0, 0, 0, 800}};
        int[] was = {67, 30, 30};
        for (int h = 0; h < 3; h++) {
            due("13: what ASIDE was of " + h, x.up(h), was[h]);
            due("13: it is 0 then", x.up(h), 0);
            for (int what = 0; what < 9; what++) {
                due("13: told " + h + ", " + what, x.told(h, what), due[h][what]);
            }
        }
    }

    // ---- tries

    private static void ends() {
        for (int h : NO_HEADS) {
            still("14: h " + h, NO_HEAD, x -> x.ends(h, 1, 11, 1, 0));
            still("14: h " + h + " ahead of the others", NO_HEAD, x -> x.ends(h, 41, 10, 61, 4));
        }
        for (int n : NO_TURNS) {
            still("14: n " + n, ILL, x -> x.ends(0, n, 11, 1, 0));
        }
        for (int v : new int[] {0, 1, 9, 10, 20, 90, 100, 101, 109, 110, 6000, 6001, 6009, 6010, 6090, 6100, 6101, 6110, 6111, 6199,
            -1, -11, -99, -111, -6099, MIN, MAX}) {
            still("14: waitSpeedPace " + v, ILL, x -> x.ends(0, 1, v, 1, 0));
        }
        for (int seconds : NO_SECONDS) {
            still("14: seconds " + seconds, ILL, x -> x.ends(0, 1, 11, seconds, 0));
        }
        for (int what : new int[] {-1, 4, MIN, MAX}) {
            still("14: what " + what, ILL, x -> x.ends(0, 1, 11, 1, what));
        }
        due("14: no HEADS", new RoundAndRound().ends(0, 1, 11, 1, 0), NO_HEAD);
        int[] second = {25, 25, 1, -1};
        int[] none = {50, 0, 0, -1};
        int[] longest = {0, 0, 540, -1};
        for (int what = 0; what < 4; what++) {
            int part = what;
            still("14: a second, what " + what, second[what], x -> x.ends(0, 1, 11, 1, part));
            still("14: no second, what " + what, none[what], x -> x.ends(0, 1, 11, 0, part));
            still("14: n 0, 60 seconds, what " + what, longest[what], x -> x.ends(0, 0, 6099, 60, part));
        }
        endsSpeeds();
        endsFalls();
    }

    private static void endsSpeeds() {
        RoundAndRound x = by("builds speed*10;fades 0;bends speed*90+10;", 0, 0);
        for (int n : new int[] {-40, -39, -1, 0, 1, 39, 40}) {
            for (int wait : new int[] {0, 60}) {
                due("14: SENSE of n " + n, x.ends(0, n, 100 * wait + 11, 0, 0), 10 * n);
                due("14: SENSE of speed 9, n " + n, x.ends(0, n, 100 * wait + 91, 0, 0), 90 * n);
            }
        }
        int[] aside = {1, 8, 9, 73};
        for (int i = 0; i < SPEED_PACES.length; i++) {
            int pace = SPEED_PACES[i] % 10;
            due("14: ASIDE by " + SPEED_PACES[i], x.ends(0, 1, SPEED_PACES[i], 1, 1), aside[i]);
            due("14: ASIDE behind a WAIT by " + SPEED_PACES[i], x.ends(0, 1, 6000 + SPEED_PACES[i], 60, 1), 60 * aside[i]);
            due("14: ALONG by " + SPEED_PACES[i], x.ends(0, 1, 6000 + SPEED_PACES[i], 59, 2), 59 * pace);
            due("14: to the left by " + SPEED_PACES[i], x.ends(0, -1, SPEED_PACES[i], 60, 1), -60 * aside[i]);
        }
        RoundAndRound y = by("builds 0;fades 1;bends 0;", 0, 0);
        y.set(0, 0, 199);
        int[] wait = {0, 1, 59, 60};
        for (int w : wait) {
            due("14: WAIT " + w, y.ends(0, 0, 100 * w + 11, 0, 0), 199 - w);
            due("14: a second behind a WAIT " + w, y.ends(0, 0, 100 * w + 99, 1, 0), 198 - w);
        }
        RoundAndRound z = by("builds eyes*100;fades eyes*50+speed;bends eyes*500;", 0, 0);
        due("14: eyes open, turning", z.ends(0, 1, 99, 0, 0), 50);
        due("14: eyes open, waiting", z.ends(0, 1, 199, 0, 0), 25);
        due("14: eyes open, on one's feet", z.ends(0, 1, 99, 1, 1), 25);
        due("14: eyes open, fading there", z.ends(0, 1, 99, 1, 0), 25);
        z.set(0, 0, 40);
        z.walk(0, 1, 31);
        z.set(0, 0, -40);
        due("14: from SENSE as it is", z.ends(0, 0, 11, 0, 0), -40);
        due("14: from ASIDE 0", z.ends(0, 0, 11, 1, 1), -20);
        due("14: from ALONG 0", z.ends(0, 0, 11, 1, 2), 1);
    }

    private static void endsFalls() {
        RoundAndRound x = by("builds 0;fades 1;bends 100;", 0, 0);
        for (int side : new int[] {1, -1}) {
            x.set(0, 0, side * 800);
            due("14: falls in the first second", x.ends(0, 0, 11, 60, 3), 0);
            due("14: falls in the only second", x.ends(0, 0, 11, 1, 3), 0);
            due("14: ASIDE of one who falls", x.ends(0, 0, 11, 60, 1), 0);
            due("14: ALONG of one who falls", x.ends(0, 0, 11, 60, 2), 0);
            due("14: SENSE of one who falls", x.ends(0, 0, 11, 60, 0), side * 800);
            due("14: no second, none falls", x.ends(0, 0, 11, 0, 3), -1);
            due("14: a WAIT, none falls", x.ends(0, 0, 111, 1, 3), -1);
            x.set(0, 0, side * 799);
            due("14: none falls", x.ends(0, 0, 11, 60, 3), -1);
        }
        x.set(0, 0, 800);
        x.walk(0, 1, 11);
        x.set(0, 0, 100);
        due("14: truly DOWN, not in thought", x.ends(0, 0, 11, 1, 1), 10);
        due("14: truly DOWN, falls in none", x.ends(0, 0, 11, 60, 3), -1);
        due("14: truly DOWN still", x.told(0, 7), 1);
    }

    private static void stands() {
        for (int h : NO_HEADS) {
            still("15: h " + h, NO_HEAD, x -> x.stands(h, 1));
            still("15: h " + h + " ahead of speed", NO_HEAD, x -> x.stands(h, 0));
        }
        for (int speed : NO_PACES) {
            still("15: speed " + speed, ILL, x -> x.stands(0, speed));
        }
        due("15: no HEADS", new RoundAndRound().stands(0, 1), NO_HEAD);
        still("15: speed 1", 40, x -> x.stands(0, 1));
        still("15: speed 9", 40, x -> x.stands(0, 9));
        RoundAndRound x = by("builds speed*10+90;fades 0;bends 0;", 0, 0);
        int[] sense = {-4800, -4799, -4700, -3201, -3200, -3101, -3100, 0, 599, 600, 699, 700, 9999, -9999};
        int[] most = {0, 40, 40, 40, 39, 39, 38, 7, 2, 1, 1, 0, 0, 0};
        for (int i = 0; i < sense.length; i++) {
            x.set(0, 0, sense[i]);
            due("15: from " + sense[i], x.stands(0, 1), most[i]);
        }
        x.set(0, 0, 0);
        due("15: of speed 9", x.stands(0, 9), 4);
        x.set(0, 0, 800);
        x.walk(0, 1, 11);
        x.set(0, 0, 0);
        due("15: also one who is DOWN", x.stands(0, 1), 7);
        for (int kind = 0; kind < 6; kind++) {
            RoundAndRound y = by("builds 20;fades 0;bends 0;", kind, 1);
            int[] due = {39, 40, 40, 40, 30, 38};
            due("15: of kind " + kind, y.stands(0, 1), due[kind]);
        }
    }

    private static void undoes() {
        for (int h : NO_HEADS) {
            still("16: h " + h, NO_HEAD, x -> x.undo(h, 1, 0));
            still("16: h " + h + " ahead of speed, what", NO_HEAD, x -> x.undo(h, 0, 2));
        }
        for (int speed : NO_PACES) {
            still("16: speed " + speed, ILL, x -> x.undo(0, speed, 0));
        }
        for (int what : new int[] {-1, 2, MIN, MAX}) {
            still("16: what " + what, ILL, x -> x.undo(0, 1, what));
        }
        due("16: no HEADS", new RoundAndRound().undo(0, 1, 0), NO_HEAD);
        still("16: SENSE 0", 0, x -> x.undo(0, 1, 0));
        still("16: SENSE 0, that", 0, x -> x.undo(0, 9, 1));
        RoundAndRound x = by("builds speed*10+90;fades 0;bends 0;", 0, 0);
        int[] sense = {1, 49, 50, 51, 100, 149, 150, 151, 3900, 3949, 3950, 3951, 4000, 4001, 4051, 9999};
        int[] turns = {0, 0, 0, 1, 1, 1, 1, 2, 39, 39, 39, 40, 40, 40, 40, 40};
        int[] left = {1, 49, 50, 49, 0, 49, 50, 49, 0, 49, 50, 49, 0, 1, 51, 5999};
        for (int i = 0; i < sense.length; i++) {
            for (int side : new int[] {1, -1}) {
                x.set(0, 0, side * sense[i]);
                due("16: of " + side * sense[i], x.undo(0, 1, 0), turns[i]);
                due("16: that of " + side * sense[i], x.undo(0, 1, 1), left[i]);
            }
        }
        x.set(0, 0, 360);
        due("16: with speed 9", x.undo(0, 9, 0), 2);
        due("16: that with speed 9", x.undo(0, 9, 1), 0);
        RoundAndRound y = by("builds 0;fades 0;bends 0;", 0, 0);
        y.set(0, 0, 9);
        due("16: all alike, the fewest", y.undo(0, 1, 0), 0);
        RoundAndRound w = by("builds 1;fades 0;bends 0;", 0, 0);
        for (int side : new int[] {1, -1}) {
            w.set(0, 0, side);
            due("16: one to the side that undoes", w.undo(0, 1, 0), 1);
            due("16: that to the side that undoes", w.undo(0, 1, 1), 0);
        }
        RoundAndRound z = by("builds 0;fades 1;bends 0;", 0, 0);
        z.set(0, 0, 120);
        due("16: alike from 21 on, the fewest", z.undo(0, 1, 0), 21);
        due("16: alike from 21 on, that", z.undo(0, 1, 1), 99);
    }

    private static void fines() {
        for (int h : NO_HEADS) {
            still("17: h " + h, NO_HEAD, x -> x.fine(h, 1));
            still("17: h " + h + " ahead of much", NO_HEAD, x -> x.fine(h, 0));
        }
        for (int much : new int[] {0, 10000, -1, MIN, MAX}) {
            still("17: much " + much, ILL, x -> x.fine(0, much));
        }
        due("17: no HEADS", new RoundAndRound().fine(0, 1), NO_HEAD);
        still("17: much 1", 0, x -> x.fine(0, 1));
        still("17: much 9999", 0, x -> x.fine(1, 9999));
        still("17: much 600", 1, x -> x.fine(1, 600));
        still("17: much 601", 0, x -> x.fine(1, 601));
        RoundAndRound x = by("builds 0;fades 101-eyes*100;bends 0;", 0, 0);
        int[] much = {201, 200, 199, 141, 140, 139, 1};
        int[] wait = {0, 0, 1, 59, 60, -1, -1};
        for (int i = 0; i < much.length; i++) {
            for (int side : new int[] {1, -1}) {
                x.set(0, 0, side * 199);
                due("17: of " + side * 199 + ", less than " + much[i], x.fine(0, much[i]), wait[i]);
            }
        }
        for (int side : new int[] {1, -1}) {
            x.set(0, 0, side * 9999);
            due("17: of 9999, less than 9999", x.fine(0, 9999), 1);
            x.set(0, 0, side * 9998);
            due("17: of 9998, less than 9999", x.fine(0, 9999), 0);
            x.set(0, 0, side);
            due("17: of 1, less than 1", x.fine(0, 1), -1);
            due("17: of 1, less than 2", x.fine(0, 2), 0);
        }
    }

    private static void races() {
        for (int h : NO_HEADS) {
            still("18: h " + h, NO_HEAD, x -> x.race(h, 0, 11, 1000, 0));
            still("18: h " + h + " ahead of the others", NO_HEAD, x -> x.race(h, 41, 10, 999, 2));
        }
        for (int n : NO_TURNS) {
            still("18: n " + n, ILL, x -> x.race(0, n, 11, 1000, 0));
            still("19: n " + n, ILL, x -> x.wins(n, 11, 1000, 0));
        }
        for (int v : NO_SPEED_PACES) {
            still("18: speedPace " + v, ILL, x -> x.race(0, 0, v, 1000, 0));
            still("19: speedPace " + v, ILL, x -> x.wins(0, v, 1000, 0));
        }
        for (int v : new int[] {0, 1, 999, 541000, 541001, 541999, -1, -1000, -1001, MIN, MAX}) {
            still("18: farWide " + v, ILL, x -> x.race(0, 0, 11, v, 0));
            still("19: farWide " + v, ILL, x -> x.wins(0, 11, v, 0));
        }
        for (int what : new int[] {-1, 2, MIN, MAX}) {
            still("18: what " + what, ILL, x -> x.race(0, 0, 11, 1000, what));
            still("19: what " + what, ILL, x -> x.wins(0, 11, 1000, what));
        }
        due("18: no HEADS", new RoundAndRound().race(0, 0, 11, 1000, 0), NO_HEAD);
        still("18: far 1, wide 0", 0, x -> x.race(0, 0, 11, 1000, 0));
        still("18: far 1, wide 0, that", 1, x -> x.race(0, 0, 11, 1000, 1));
        still("18: far 540, wide 999", 0, x -> x.race(0, 0, 99, 540999, 0));
        still("18: far 540, wide 999, that", 60, x -> x.race(0, 0, 99, 540999, 1));
        still("18: 61 seconds", -1, x -> x.race(0, 0, 11, 61999, 0));
        still("18: 61 seconds, that", -1, x -> x.race(0, 0, 11, 61999, 1));
        racesSeconds();
        racesTurned();
        racesWaiting();
    }

    /** The seconds on one's feet: far by PACE, rounded up, 60 at most. */
    private static void racesSeconds() {
        RoundAndRound x = by("builds 0;fades 0;bends 100;", 0, 0);
        int[][] due = {{1, 1, 1}, {2, 1, 2}, {60, 1, 60}, {61, 1, 61}, {1, 2, 1}, {2, 2, 1}, {3, 2, 2}, {119, 2, 60}, {120, 2, 60}, {121, 2, 61},
            {1, 9, 1}, {9, 9, 1}, {10, 9, 2}, {18, 9, 2}, {19, 9, 3}, {531, 9, 59}, {532, 9, 60}, {540, 9, 60}, {480, 8, 60}, {481, 8, 61},
            {540, 8, 68}, {540, 1, 540}};
        for (int[] a : due) {
            String of = "far " + a[0] + ", PACE " + a[1];
            for (int side : new int[] {1, -1}) {
                x.set(0, 0, side * 10);
                int seconds = a[2] > 60 ? -1 : a[2];
                due("18: " + of, x.race(0, 0, 10 + a[1], 1000 * a[0] + a[2], 1), seconds);
                due("18: at once, " + of, x.race(0, 0, 90 + a[1], 1000 * a[0] + a[2], 0), seconds < 0 ? -1 : 0);
                due("18: wide, " + of, x.race(0, 0, 90 + a[1], 1000 * a[0] + 999, 1), seconds);
                due("18: one less wide, " + of, x.race(0, 0, 10 + a[1], 1000 * a[0] + a[2] - 1, 1), -1);
                due("19: " + of, x.wins(0, 10 + a[1], 1000 * a[0] + a[2], 1), seconds);
                due("19: one less wide, " + of, x.wins(0, 10 + a[1], 1000 * a[0] + a[2] - 1, 0), -1);
            }
        }
        for (int side : new int[] {1, -1}) {
            x.set(0, 0, side * 270);
            due("18: 999 wide", x.race(0, 0, 11, 37999, 0), 0);
            due("18: 998 wide", x.race(0, 0, 11, 37998, 0), -1);
            x.set(0, 0, side * 9);
            due("18: 0 wide", x.race(0, 0, 11, 37000, 0), 0);
            x.set(0, 0, side * 10);
            due("18: more than 0 wide", x.race(0, 0, 11, 1000, 0), -1);
            x.set(0, 0, side * 799);
            due("18: one who stands", x.race(0, 0, 11, 1999, 0), 0);
            x.set(0, 0, side * 800);
            due("18: one who falls", x.race(0, 0, 11, 1999, 0), -1);
        }
    }

    private static void racesTurned() {
        RoundAndRound x = by("builds speed*10;fades 0;bends speed*10+90;", 0, 0);
        for (int n : new int[] {-40, -39, 0, 39, 40}) {
            int aside = Math.abs(n);
            due("18: n " + n, x.race(0, n, 11, 1000 + aside, 0), 0);
            due("18: n " + n + ", one less wide", aside == 0 ? -1 : x.race(0, n, 11, 1000 + aside - 1, 0), -1);
            due("19: n " + n, x.wins(n, 11, 1000 + aside, 0), 0);
            due("19: n " + n + ", one less wide", aside == 0 ? -1 : x.wins(n, 11, 1000 + aside - 1, 0), -1);
        }
        int[] aside = {5, 9, 45, 81};
        for (int i = 0; i < SPEED_PACES.length; i++) {
            due("18: by " + SPEED_PACES[i], x.race(0, 5, SPEED_PACES[i], 1000 + aside[i], 1), 1);
            due("18: by " + SPEED_PACES[i] + ", one less wide", x.race(0, 5, SPEED_PACES[i], 1000 + aside[i] - 1, 1), -1);
        }
        x.set(0, 0, 800);
        x.walk(0, 1, 11);
        x.set(0, 0, 0);
        due("18: also one who is DOWN", x.race(0, 0, 11, 1000, 0), 0);
        due("19: also one who is DOWN", x.wins(0, 11, 1000, 0), 0);
    }

    /** In thought eyes are open all the time. */
    private static void eyesOpen() {
        RoundAndRound x = by("builds eyes*10;fades 0;bends eyes*100;", 0, 0);
        due("18: eyes open", x.race(0, 5, 11, 1005, 0), 0);
        due("18: eyes open, one less wide", x.race(0, 5, 11, 1004, 0), -1);
        due("19: eyes open", x.wins(5, 11, 1005, 0), 0);
        due("19: eyes open, one less wide", x.wins(5, 11, 1004, 0), -1);
        due("20: eyes open", x.pace(0, 5, 1, 9, 1), 5);
        due("21: eyes open", x.roses(0, 11, 1, 7, 0), 7);
        due("15: eyes open", by("builds eyes*100;fades 0;bends 0;", 0, 0).stands(0, 1), 7);
        x.set(0, 0, 20);
        due("16: eyes open", x.undo(0, 1, 0), 2);
        x.sheet(0, 2, 2);
        x.cell(0, 0, 5);
        x.cell(0, 1, 10);
        due("22: eyes open", x.judge(0, 0, 3, 11), -1);
        due("23: eyes open", x.turned(0, 0, 11, 1), 3);
        due("24: eyes open", x.kinds(0, 0, 3, 11, 1), 1023);
        due("25: eyes open", x.laws(0, 0, 3, 11), 2);
        due("26: eyes open", x.whose(0, 3, 11), 1);
        x.film(1, 0, 3, 11, 2);
        x.copy(1, 0, 0, 0, 2);
        due("27: eyes open", x.judge(0, 0, 3, 11), -1);
        RoundAndRound y = by("builds 100;fades eyes*50;bends 100;", 0, 0);
        due("18: eyes open, fading while turning and waiting", y.race(0, 1, 11, 1003, 0), 1);
        due("18: eyes open, fading on one's feet", y.race(0, 1, 11, 2007, 0), 0);
        due("20: eyes open, fading", y.pace(0, 1, 9, 18, 1), 7);
        due("21: eyes open, fading", y.roses(0, 11, 2, 7, 1), 0);
        due("17: eyes open, fading", y.fine(0, 1), 0);
        y.set(0, 0, 8);
        due("17: eyes open, fading", y.fine(0, 5), 1);
    }

    /** WAITS are 0 .. 60, ahead of 60 seconds too. */
    private static void racesWaiting() {
        RoundAndRound x = by("builds 0;fades 1;bends 100;", 0, 0);
        int[] wide = {19, 18, 14, 13, 12, 0};
        int[] wait = {0, 10, 50, 60, -1, -1};
        for (int i = 0; i < wide.length; i++) {
            for (int side : new int[] {1, -1}) {
                x.set(0, 0, side * 199);
                due("18: wide " + wide[i], x.race(0, 0, 11, 1000 + wide[i], 0), wait[i]);
                due("18: wide " + wide[i] + ", that", x.race(0, 0, 11, 1000 + wide[i], 1), wait[i] < 0 ? -1 : wait[i] + 1);
            }
        }
        RoundAndRound y = by("builds 0;fades 100*(1-(sense<860 and 0-860<sense))+(sense<860 and 0-860<sense);bends eyes;", 0, 0);
        int[] sense = {799, 800, 859};
        int[] till = {0, 1, 8};
        for (int i = 0; i < sense.length; i++) {
            y.set(0, 0, sense[i]);
            due("18: one not FALLING, of " + sense[i], y.race(0, 0, 11, 60999, 0), till[i]);
            due("18: that of " + sense[i], y.race(0, 0, 11, 60999, 1), till[i] + 60);
        }
        y.set(0, 0, -860);
        due("18: one not FALLING, of -860", y.race(0, 0, 11, 60999, 0), 1);
    }

    private static void wins() {
        RoundAndRound none = new RoundAndRound();
        due("19: no HEADS", none.wins(0, 11, 1000, 0), -1);
        due("19: no HEADS, that", none.wins(0, 11, 1000, 1), -1);
        due("19: no HEADS, n 41", none.wins(41, 11, 1000, 0), ILL);
        due("19: no HEADS, what 2", none.wins(0, 11, 1000, 2), ILL);
        still("19: far 1, wide 0", 0, x -> x.wins(0, 11, 1000, 0));
        still("19: far 1, wide 0, that", 1, x -> x.wins(0, 11, 1000, 1));
        still("19: far 540, wide 999", 0, x -> x.wins(0, 99, 540999, 0));
        still("19: 61 seconds", -1, x -> x.wins(0, 11, 61999, 0));
        RoundAndRound x = by("builds 0;fades 1;bends 100;", 0, 0);
        for (int h = 1; h < 5; h++) {
            x.head(0, 0);
        }
        int[][] sense = {{199, 199, 199, 199, 199}, {199, 199, 199, 199, 139}, {199, 139, 149, -139, 139}, {500, 500, 200, 500, 500},
            {500, 500, 500, 500, 199}, {500, 500, 500, 500, 500}, {-139, 9999, 139, 9999, 139}, {9999, 9999, 9999, 139, -138}};
        int[] first = {0, 4, 1, 2, 4, -1, 0, 3};
        int[] together = {61, 1, 1, 61, 61, -1, 1, 1};
        sense[3][2] = 198;
        together[3] = 60;
        for (int i = 0; i < sense.length; i++) {
            for (int h = 0; h < 5; h++) {
                x.set(h, 0, sense[i][h]);
            }
            due("19: the first, row " + i, x.wins(0, 11, 1013, 0), first[i]);
            due("19: that, row " + i, x.wins(0, 11, 1013, 1), together[i]);
        }
    }

    private static void paces() {
        for (int h : NO_HEADS) {
            still("20: h " + h, NO_HEAD, x -> x.pace(h, 0, 1, 1, 0));
            still("20: h " + h + " ahead of the others", NO_HEAD, x -> x.pace(h, 41, 0, 0, 2));
        }
        for (int n : NO_TURNS) {
            still("20: n " + n, ILL, x -> x.pace(0, n, 1, 1, 0));
        }
        for (int speed : NO_PACES) {
            still("20: speed " + speed, ILL, x -> x.pace(0, 0, speed, 1, 0));
        }
        for (int far : new int[] {0, 61, -1, MIN, MAX}) {
            still("20: far " + far, ILL, x -> x.pace(0, 0, 1, far, 0));
        }
        for (int what : new int[] {-1, 2, MIN, MAX}) {
            still("20: what " + what, ILL, x -> x.pace(0, 0, 1, 1, what));
        }
        due("20: no HEADS", new RoundAndRound().pace(0, 0, 1, 1, 0), NO_HEAD);
        still("20: all alike, the quickest", 9, x -> x.pace(0, 0, 1, 60, 0));
        still("20: all alike, that", 0, x -> x.pace(0, 0, 1, 60, 1));
        for (int quick = 1; quick <= 9; quick++) {
            RoundAndRound x = by("builds 0;fades 0;bends 999-(speed=" + quick + ")*899;", 0, 0);
            for (int far : new int[] {1, quick, Math.min(60, quick + 1), 59, 60}) {
                for (int side : new int[] {1, -1}) {
                    x.set(0, 0, side * 10);
                    due("20: PACE " + quick + ", far " + far, x.pace(0, 40, 9, far, 0), quick);
                    due("20: that of " + quick + ", far " + far, x.pace(0, -40, 9, far, 1), (far + quick - 1) / quick);
                }
            }
        }
        RoundAndRound y = by("builds speed*10;fades 0;bends 100;", 0, 0);
        int[][] due = {{40, 1, 40}, {-40, 1, 40}, {39, 1, 39}, {1, 9, 9}, {-1, 9, 9}, {8, 9, 72}, {0, 9, 0}, {9, 9, -1}, {-9, 9, -1}};
        for (int[] a : due) {
            due("20: n " + a[0] + ", speed " + a[1], y.pace(0, a[0], a[1], 9, 1), a[2]);
            due("20: PACE of n " + a[0] + ", speed " + a[1], y.pace(0, a[0], a[1], 9, 0), a[2] < 0 ? -1 : 9);
        }
        y.set(0, 0, 799);
        due("20: one who stands", y.pace(0, 0, 1, 9, 1), 79);
        y.set(0, 0, -800);
        due("20: one who falls", y.pace(0, 0, 1, 9, 0), -1);
        due("20: one who falls, that", y.pace(0, 0, 1, 9, 1), -1);
        y.walk(0, 1, 11);
        y.set(0, 0, 0);
        due("20: also one who is DOWN", y.pace(0, 0, 1, 9, 0), 9);
    }

    private static void roses() {
        for (int h : NO_HEADS) {
            still("21: h " + h, NO_HEAD, x -> x.roses(h, 11, 1, 0, 0));
            still("21: h " + h + " ahead of the others", NO_HEAD, x -> x.roses(h, 10, 61, 100000, 2));
        }
        for (int v : NO_SPEED_PACES) {
            still("21: speedPace " + v, ILL, x -> x.roses(0, v, 1, 0, 0));
        }
        for (int seconds : NO_SECONDS) {
            still("21: seconds " + seconds, ILL, x -> x.roses(0, 11, seconds, 0, 0));
        }
        for (int at : new int[] {-100000, 100000, MIN, MAX}) {
            still("21: at " + at, ILL, x -> x.roses(0, 11, 1, at, 0));
        }
        for (int what : new int[] {-1, 2, MIN, MAX}) {
            still("21: what " + what, ILL, x -> x.roses(0, 11, 1, 0, what));
        }
        due("21: no HEADS", new RoundAndRound().roses(0, 11, 1, 0, 0), NO_HEAD);
        still("21: at 25", 1, x -> x.roses(0, 11, 1, 25, 0));
        still("21: at 25, how far", 0, x -> x.roses(0, 11, 1, 25, 1));
        RoundAndRound x = by("builds speed*10;fades 0;bends speed*10+90;", 0, 0);
        int[][] due = {{11, 1, 0, 0, 0}, {11, 1, 1, 1, 0}, {11, 1, -1, -1, 0}, {11, 1, 39, 39, 0}, {11, 1, -39, -39, 0}, {11, 1, 40, 40, 0},
            {11, 1, -40, -40, 0}, {11, 1, 41, 40, 1}, {11, 1, 99999, 40, 99959}, {11, 1, -99999, -40, 99959}, {11, 60, 2400, 40, 0},
            {11, 60, -2400, -40, 0}, {11, 60, 30, 0, 30}, {11, 60, 31, 1, 29}, {11, 60, 90, 1, 30}, {11, 60, -90, -1, 30}, {11, 0, 0, 0, 0},
            {11, 0, 99999, 0, 99999}, {11, 0, -99999, 0, 99999}, {91, 1, 9, 1, 0}, {91, 1, -72, -8, 0}, {91, 1, 99999, 8, 99927},
            {19, 1, 72, 40, 0}, {99, 1, 16, 1, 0}};
        for (int[] a : due) {
            String of = a[0] + ", seconds " + a[1] + ", at " + a[2];
            due("21: " + of, x.roses(0, a[0], a[1], a[2], 0), a[3]);
            due("21: how far, " + of, x.roses(0, a[0], a[1], a[2], 1), a[4]);
        }
        due("21: the first so, of 1 and -1", firstRose("sense=105"), 1);
        due("21: the first so, of -1 and 2", firstRose("sense=105 or sense=115"), -1);
        due("21: the first so, of 2 and -2", firstRose("sense=105 or sense=115 or sense=95"), 2);
        due("21: the first so, of 40 and -40", firstRose("0-295<sense and sense<505"), 40);
        due("21: of -40 alone", firstRose("0-295<sense"), -40);
    }

    /** The first of the turns behind which nothing bends, from SENSE 105, a turn being 10. */
    private static int firstRose(String bending) {
        RoundAndRound x = by("builds 10;fades 0;bends(" + bending + ")*500;", 0, 0);
        x.set(0, 0, 105);
        int turns = x.roses(0, 11, 1, 0, 0);
        x.sheet(0, 2, 1);
        due("23: the first so as told, " + bending, x.turned(0, 0, 11, 1), turns);
        return turns;
    }

    // ---- told ways

    private static void judges() {
        for (int s : NO_SHEETS) {
            still("22: SHEET " + s, BAD, x -> x.judge(s, 0, 1, 11));
            still("22: SHEET " + s + " ahead of the others", BAD, x -> x.judge(s, 3, 41, 10));
        }
        still("22: a missing SHEET", NOTHING, x -> x.judge(3, 0, 1, 11));
        still("22: a missing SHEET ahead of the others", NOTHING, x -> x.judge(3, 3, 41, 10));
        for (int h : NO_HEADS) {
            still("22: h " + h, NOBODY, x -> x.judge(0, h, 1, 11));
            still("22: h " + h + " ahead of the others", NOBODY, x -> x.judge(0, h, 41, 10));
        }
        for (int n : NO_TURNS) {
            still("22: n " + n, ILL_TOLD, x -> x.judge(0, 0, n, 11));
        }
        for (int v : NO_SPEED_PACES) {
            still("22: speedPace " + v, ILL_TOLD, x -> x.judge(0, 0, 1, v));
        }
        for (int s = 0; s < 3; s++) {
            int row = s;
            still("22: as told by SHEET " + s, -1, x -> x.judge(row, 0, 1, 11));
            still("22: otherwise by SHEET " + s, 0, x -> x.judge(row, 0, -1, 11));
        }
        RoundAndRound x = speeds();
        for (int i = 0; i < SPEED_PACES.length; i++) {
            for (int n : new int[] {-40, -39, -1, 0, 1, 39, 40}) {
                x.sheet(0, 2, 1);
                x.cell(0, 0, n * AT_SPEEDS[i]);
                due("22: by " + SPEED_PACES[i] + ", n " + n, x.judge(0, 0, n, SPEED_PACES[i]), -1);
                x.cell(0, 0, n * AT_SPEEDS[i] + 1);
                due("22: one off by " + SPEED_PACES[i] + ", n " + n, x.judge(0, 0, n, SPEED_PACES[i]), 0);
            }
        }
        judgesRows();
    }

    private static final int[] AT_SPEEDS = {1, 3, 2, 6};

    /** One's ASIDE of the first second is n times what AT_SPEEDS tells for each of SPEED_PACES; nothing fades, none falls. */
    private static RoundAndRound speeds() {
        return by("builds(speed=1)*20+(speed=9)*40;fades 0;bends(speed=1)*100+(speed=9)*300;", 1, 9);
    }

    private static void judgesRows() {
        RoundAndRound x = by("builds 10;fades 0;bends 100;", 0, 0);
        x.sheet(1, 2, 0);
        due("22: a row of none", x.judge(1, 0, 40, 99), -1);
        x.film(0, 0, 40, 11, 40);
        due("22: a row of 40", x.judge(0, 0, 40, 11), -1);
        for (int i : new int[] {39, 38, 1, 0}) {
            x.cell(0, i, -1);
            due("22: the first that is otherwise, " + i, x.judge(0, 0, 40, 11), i);
        }
        x.cell(0, 0, 40);
        due("22: the next", x.judge(0, 0, 40, 11), 1);
        RoundAndRound y = by("builds eyes*10;fades 0;bends eyes*100;", 0, 0);
        y.film(0, 0, 5, 11, 2);
        y.set(0, 0, 100);
        y.walk(0, 1, 31);
        y.set(0, 0, 0);
        due("22: from ALONG 0, ASIDE 0", y.judge(0, 0, 5, 11), -1);
        y.set(0, 0, 800);
        y.walk(0, 1, 31);
        y.set(0, 0, 0);
        due("22: also one who is DOWN", y.judge(0, 0, 5, 11), -1);
        y.set(0, 0, 10);
        due("22: from SENSE as it is", y.judge(0, 0, 4, 11), -1);
        y.set(0, 0, 800);
        y.sheet(0, 1, 40);
        due("22: one who falls stays", y.judge(0, 0, 0, 11), -1);
        y.set(0, 0, 799);
        due("22: one who stands doesn't", y.judge(0, 0, 0, 11), 0);
    }

    private static void turneds() {
        for (int s : NO_SHEETS) {
            still("23: SHEET " + s, BAD, x -> x.turned(s, 0, 11, 0));
            still("23: SHEET " + s + " ahead of the others", BAD, x -> x.turned(s, 3, 10, 2));
        }
        still("23: a missing SHEET", NOTHING, x -> x.turned(3, 0, 11, 0));
        still("23: a missing SHEET ahead of the others", NOTHING, x -> x.turned(3, 3, 10, 2));
        for (int h : NO_HEADS) {
            still("23: h " + h, NOBODY, x -> x.turned(0, h, 11, 0));
            still("23: h " + h + " ahead of the others", NOBODY, x -> x.turned(0, h, 10, 2));
        }
        for (int v : NO_SPEED_PACES) {
            still("23: speedPace " + v, ILL_TOLD, x -> x.turned(0, 0, v, 0));
        }
        for (int what : new int[] {-1, 2, MIN, MAX}) {
            still("23: what " + what, ILL_TOLD, x -> x.turned(0, 0, 11, what));
        }
        still("23: one", 1, x -> x.turned(0, 0, 11, 0));
        still("23: that", 1, x -> x.turned(0, 0, 11, 1));
        still("23: none", 0, x -> x.turned(0, 2, 11, 0));
        still("23: none, the first", -100, x -> x.turned(0, 2, 11, 1));
        RoundAndRound x = speeds();
        x.sheet(0, 2, 0);
        due("23: of a row of none, all", x.turned(0, 0, 11, 0), 81);
        due("23: of a row of none, the first", x.turned(0, 0, 11, 1), 0);
        x.sheet(0, 2, 1);
        for (int i = 0; i < SPEED_PACES.length; i++) {
            for (int n : new int[] {-41, -40, -39, -1, 0, 1, 39, 40, 41}) {
                x.cell(0, 0, n * AT_SPEEDS[i]);
                boolean so = Math.abs(n) <= 40;
                due("23: how many, " + n, x.turned(0, 0, SPEED_PACES[i], 0), so ? 1 : 0);
                due("23: which, " + n, x.turned(0, 0, SPEED_PACES[i], 1), so ? n : -100);
            }
        }
    }

    private static void kinds() {
        for (int s : NO_SHEETS) {
            still("24: SHEET " + s, BAD, x -> x.kinds(s, 0, 1, 11, 0));
            still("24: SHEET " + s + " ahead of the others", BAD, x -> x.kinds(s, 3, 41, 10, 3));
        }
        still("24: a missing SHEET", NOTHING, x -> x.kinds(3, 0, 1, 11, 0));
        still("24: a missing SHEET ahead of the others", NOTHING, x -> x.kinds(3, 3, 41, 10, 3));
        for (int h : NO_HEADS) {
            still("24: h " + h, NOBODY, x -> x.kinds(0, h, 1, 11, 0));
            still("24: h " + h + " ahead of the others", NOBODY, x -> x.kinds(0, h, 41, 10, 3));
        }
        for (int n : NO_TURNS) {
            still("24: n " + n, ILL_TOLD, x -> x.kinds(0, 0, n, 11, 0));
        }
        for (int v : NO_SPEED_PACES) {
            still("24: speedPace " + v, ILL_TOLD, x -> x.kinds(0, 0, 1, v, 0));
        }
        for (int sort : new int[] {-1, 3, MIN, MAX}) {
            still("24: sort " + sort, ILL_TOLD, x -> x.kinds(0, 0, 1, 11, sort));
        }
        int[] all = {63, 1023, 1023};
        for (int sort = 0; sort < 3; sort++) {
            int which = sort;
            still("24: none of sort " + sort, 0, x -> x.kinds(0, 2, 1, 11, which));
            RoundAndRound x = by("builds cake+more*10;fades 0;bends 500;", 0, 0);
            x.sheet(0, 2, 0);
            due("24: all of sort " + sort, x.kinds(0, 0, 40, 99, sort), all[sort]);
            x.sheet(0, 2, 1);
            due("24: all of sort " + sort + ", n 0", x.kinds(0, 0, 0, 11, sort), all[sort]);
        }
        for (int v = 0; v <= 9; v++) {
            RoundAndRound x = by("builds cake*2+more*50;fades 0;bends 500;", 0, 9 - v);
            x.set(0, 1, 9 - v);
            x.sheet(0, 2, 1);
            x.cell(0, 0, 9 - v + v * 25);
            due("24: MORE " + v, x.kinds(0, 0, 1, 11, 1), 1 << v);
            x.cell(0, 0, -(v + (9 - v) * 25));
            due("24: CAKE " + v, x.kinds(0, 0, -1, 11, 2), 1 << v);
            x.cell(0, 0, 1000);
            due("24: no MORE", x.kinds(0, 0, 1, 11, 1), 0);
            due("24: no CAKE", x.kinds(0, 0, 1, 11, 2), 0);
            due("24: no KIND", x.kinds(0, 0, 1, 11, 0), 0);
        }
        for (int i = 0; i < SPEED_PACES.length; i++) {
            RoundAndRound x = speeds();
            x.sheet(0, 2, 1);
            x.cell(0, 0, 5 * AT_SPEEDS[i]);
            due("24: KINDS 1, 3 by speed 1, 1 by speed 9, " + SPEED_PACES[i], x.kinds(0, 0, 5, SPEED_PACES[i], 0), i < 2 ? 10 : 2);
            due("24: any MORE by " + SPEED_PACES[i], x.kinds(0, 0, 5, SPEED_PACES[i], 1), 1023);
            due("24: any CAKE by " + SPEED_PACES[i], x.kinds(0, 0, 5, SPEED_PACES[i], 2), 1023);
        }
        int[] aside = {200, 100, (375 - 18) / 2, 50, (375 - 3) / 2, (400 + 45) / 2};
        for (int kind = 0; kind < 6; kind++) {
            RoundAndRound x = by("builds 400;fades 10-10*eyes;bends 500;", 5 - kind, 5);
            x.sheet(0, 2, 1);
            x.cell(0, 0, aside[kind]);
            due("24: KIND " + kind, x.kinds(0, 0, 1, 91, 0), 1 << kind);
            due("24: its KIND stays", x.told(0, 0), 5 - kind);
        }
    }

    private static void laws() {
        for (int s : NO_SHEETS) {
            still("25: SHEET " + s, BAD, x -> x.laws(s, 0, 1, 11));
            still("25: SHEET " + s + " ahead of the others", BAD, x -> x.laws(s, 3, 41, 10));
        }
        still("25: a missing SHEET", NOTHING, x -> x.laws(3, 0, 1, 11));
        still("25: a missing SHEET ahead of the others", NOTHING, x -> x.laws(3, 3, 41, 10));
        for (int h : NO_HEADS) {
            still("25: h " + h, NOBODY, x -> x.laws(0, h, 1, 11));
            still("25: h " + h + " ahead of the others", NOBODY, x -> x.laws(0, h, 41, 10));
        }
        for (int n : NO_TURNS) {
            still("25: n " + n, ILL_TOLD, x -> x.laws(0, 0, n, 11));
        }
        for (int v : NO_SPEED_PACES) {
            still("25: speedPace " + v, ILL_TOLD, x -> x.laws(0, 0, 1, v));
        }
        still("25: THE LAW alone", 2, x -> x.laws(0, 0, 1, 11));
        still("25: none", 0, x -> x.laws(0, 0, -1, 11));
        RoundAndRound x = new RoundAndRound();
        x.head(0, 0);
        x.sheet(0, 2, 1);
        due("25: TEXT 0", x.laws(0, 0, 0, 11), 1);
        for (int t = 1; t <= 5; t++) {
            read(x, "builds " + t + "00;fades 0;bends 100;");
            due("25: all, " + t, x.laws(0, 0, 0, 11), (1 << t + 1) - 1);
        }
        for (int t = 1; t <= 5; t++) {
            x.cell(0, 0, 10 * t);
            due("25: TEXT " + t, x.laws(0, 0, 1, 99), 1 << t);
            x.cell(0, 0, -10 * t);
            due("25: TEXT " + t + " to the left", x.laws(0, 0, -1, 91), 1 << t);
        }
        x.cell(0, 0, 2);
        due("25: TEXT 0 of six", x.laws(0, 0, 1, 11), 1);
        x.cell(0, 0, 9);
        due("25: TEXT 0 of six, speed 9", x.laws(0, 0, 1, 91), 1);
        for (int i = 0; i < SPEED_PACES.length; i++) {
            RoundAndRound y = speeds();
            y.force(0);
            y.sheet(0, 2, 1);
            y.cell(0, 0, 10 * AT_SPEEDS[i]);
            due("25: TEXT 1 by " + SPEED_PACES[i], y.laws(0, 0, 10, SPEED_PACES[i]), 2);
        }
        due("25: THE LAW stays", x.count(2), 0);
        x.sheet(0, 0, 0);
        due("25: all six of a row of none", x.laws(0, 0, 40, 99), 63);
    }

    private static void whoses() {
        for (int s : NO_SHEETS) {
            still("26: SHEET " + s, BAD, x -> x.whose(s, 1, 11));
            still("26: SHEET " + s + " ahead of the others", BAD, x -> x.whose(s, 41, 10));
        }
        still("26: a missing SHEET", NOTHING, x -> x.whose(3, 1, 11));
        still("26: a missing SHEET ahead of the others", NOTHING, x -> x.whose(3, 41, 10));
        for (int n : NO_TURNS) {
            still("26: n " + n, ILL_TOLD, x -> x.whose(0, n, 11));
        }
        for (int v : NO_SPEED_PACES) {
            still("26: speedPace " + v, ILL_TOLD, x -> x.whose(0, 1, v));
        }
        still("26: the first", 1, x -> x.whose(0, 1, 11));
        still("26: none", 0, x -> x.whose(0, 40, 11));
        RoundAndRound x = speeds();
        x.sheet(0, 2, 1);
        x.sheet(1, 2, 0);
        for (int h = 0; h < 5; h++) {
            due("26: all of a row of none, " + h, x.whose(1, 40, 99), (1 << h + 1) - 1);
            due("26: all who don't turn, " + h, x.whose(0, 0, 11), (1 << h + 1) - 1);
            x.head(1, 9);
        }
        for (int h = 0; h < 5; h++) {
            x.set(h, 0, h * 50);
        }
        for (int h = 0; h < 5; h++) {
            for (int n : new int[] {-40, 40}) {
                x.cell(0, 0, h * 5 + n);
                due("26: HEAD " + h + ", n " + n, x.whose(0, n, 11), 1 << h);
            }
        }
        for (int i = 0; i < SPEED_PACES.length; i++) {
            for (int n : new int[] {-40, -1, 1, 40}) {
                x.cell(0, 0, n * AT_SPEEDS[i]);
                due("26: the first by " + SPEED_PACES[i] + ", n " + n, x.whose(0, n, SPEED_PACES[i]) & 1, 1);
                x.cell(0, 0, n * AT_SPEEDS[i] + 1);
                due("26: not the first by " + SPEED_PACES[i] + ", n " + n, x.whose(0, n, SPEED_PACES[i]) & 1, 0);
            }
        }
        RoundAndRound none = new RoundAndRound();
        none.sheet(0, 2, 1);
        due("26: no HEADS", none.whose(0, 0, 11), 0);
        due("26: no HEADS, n 41", none.whose(0, 41, 11), ILL_TOLD);
    }

    private static void films() {
        for (int s : NO_SHEETS) {
            still("27: SHEET " + s, BAD, x -> x.film(s, 0, 1, 11, 1));
            still("27: SHEET " + s + " ahead of the others", BAD, x -> x.film(s, 3, 41, 10, 41));
        }
        for (int s = 0; s < 4; s++) {
            int row = s;
            for (int h : NO_HEADS) {
                still("27: h " + h, NOBODY, x -> x.film(row, h, 1, 11, 1));
                still("27: h " + h + " ahead of the others", NOBODY, x -> x.film(row, h, 41, 10, 41));
            }
            for (int n : NO_TURNS) {
                still("27: n " + n, ILL_TOLD, x -> x.film(row, 0, n, 11, 1));
            }
            for (int v : NO_SPEED_PACES) {
                still("27: speedPace " + v, ILL_TOLD, x -> x.film(row, 0, 1, v, 1));
            }
            for (int seconds : new int[] {-1, 41, 60, MIN, MAX}) {
                still("27: seconds " + seconds, ILL_TOLD, x -> x.film(row, 0, 1, 11, seconds));
            }
            for (int seconds : new int[] {0, 1, 39, 40}) {
                for (int n : new int[] {-40, 40}) {
                    RoundAndRound x = rich();
                    due("27: seconds " + seconds + ", SHEET " + s, x.film(s, 0, n, 99, seconds), seconds);
                    due("27: as it is judged", x.judge(s, 0, n, 99), -1);
                    due("27: ints", x.headsBy(s, 2, 0, 0), 0);
                    due("27: so many", x.copy(s, seconds, s, 0, 0), 0);
                    due("27: no more", x.copy(s, seconds + 1, s, 0, 0), OUTSIDE);
                    due("27: SENSE stays", x.told(0, 2), 0);
                    due("27: ALONG stays", x.told(0, 5), 5);
                    due("27: ASIDE stays", x.told(0, 6), 67);
                    due("27: USED stays", x.told(0, 4), 2);
                }
            }
        }
        still("27: the same again", 3, x -> x.film(0, 0, 1, 11, 3));
        RoundAndRound x = speeds();
        for (int i = 0; i < SPEED_PACES.length; i++) {
            x.film(0, 0, -40, SPEED_PACES[i], 1);
            x.sheet(1, 2, 1);
            x.cell(1, 0, -40 * AT_SPEEDS[i]);
            due("27: by " + SPEED_PACES[i], x.judge(0, 0, -40, SPEED_PACES[i]), -1);
            due("27: as reckoned by " + SPEED_PACES[i], x.judge(1, 0, -40, SPEED_PACES[i]), -1);
            due("27: of that n alone", x.turned(0, 0, SPEED_PACES[i], 1), -40);
        }
        due("27: no HEADS", new RoundAndRound().film(0, 0, 1, 11, 1), NOBODY);
        RoundAndRound y = by("builds 0;fades 0;bends 999;", 1, 9);
        y.set(0, 0, 979);
        y.film(0, 0, 0, 11, 40);
        y.sheet(1, 2, 40);
        for (int i = 0; i < 40; i++) {
            y.cell(1, i, 978 * (i + 1));
        }
        due("27: ints keep what shorts don't", y.judge(1, 0, 0, 11), -1);
        y.copy(0, 39, 1, 39, 1);
        due("27: the last of forty", y.judge(1, 0, 0, 11), -1);
    }

    // ---- walks by lots

    private static void drawns() {
        for (int h : NO_HEADS) {
            still("28: h " + h, NO_HEAD, x -> x.drawn(0, h, 1, 11, 0));
            still("28: h " + h + " ahead of the others", NO_HEAD, x -> x.drawn(-1, h, 61, 10, 3));
        }
        for (int seed : new int[] {-1, 100000, MIN, MAX}) {
            still("28: SEED " + seed, ILL, x -> x.drawn(seed, 0, 1, 11, 0));
        }
        for (int seconds : NO_SECONDS) {
            still("28: seconds " + seconds, ILL, x -> x.drawn(0, 0, seconds, 11, 0));
        }
        for (int v : NO_ODDS_PACES) {
            still("28: oddsPace " + v, ILL, x -> x.drawn(0, 0, 1, v, 0));
        }
        for (int what : new int[] {-1, 3, MIN, MAX}) {
            still("28: what " + what, ILL, x -> x.drawn(0, 0, 1, 11, what));
        }
        due("28: no HEADS", new RoundAndRound().drawn(0, 0, 1, 11, 0), NO_HEAD);
        for (int v : new int[] {1, 9, 1001, 1009}) {
            still("28: ALONG by " + v, 60 * (v % 10), x -> x.drawn(99999, 0, 60, v, 1));
            still("28: no seconds by " + v, 0, x -> x.drawn(0, 0, 0, v, 1));
            still("28: not DOWN by " + v, 0, x -> x.drawn(0, 1, 0, v, 2));
            still("28: DOWN by " + v, 1, x -> x.drawn(0, 1, 1, v, 2));
            still("28: ASIDE of one who falls by " + v, 0, x -> x.drawn(99999, 1, 60, v, 0));
        }
        RoundAndRound x = by("builds 0;fades 0;bends eyes*100;", 0, 0);
        x.set(0, 0, 10);
        for (int seed : new int[] {0, 1, 7, 44487, 44488, 99998, 99999}) {
            for (int seconds : new int[] {0, 1, 2, 59, 60}) {
                int last = lotOf(seed, Math.max(1, seconds));
                for (int odds : new int[] {0, 1, 50, 99, 100, last, last + 1}) {
                    int v = 10 * odds + 9;
                    due("28: ASIDE of SEED " + seed + ", seconds " + seconds + ", odds " + odds, x.drawn(seed, 0, seconds, v, 0), opened(seed, seconds, odds));
                }
            }
        }
        RoundAndRound z = by("builds 0;fades 0;bends 500+eyes*100;", 0, 0);
        z.set(0, 0, 10);
        due("28: eyes 0 while shut", z.drawn(0, 0, 60, 1001, 0), 300);
        due("28: eyes 1 while open", z.drawn(0, 0, 60, 1, 0), 360);
        RoundAndRound y = by("builds 0;fades eyes*100;bends 100;", 0, 0);
        y.set(0, 0, 10);
        due("28: eyes shut, nothing fades", y.drawn(0, 0, 60, 1001, 0), 60);
        due("28: eyes open, all fades", y.drawn(0, 0, 60, 1, 0), 1);
        due("28: SEED 0 begins with 71, shut below 72", y.drawn(0, 0, 2, 721, 0), 2);
        due("28: SEED 0 begins with 71, open at 71", y.drawn(0, 0, 2, 711, 0), 1);
        y.set(0, 0, 800);
        y.walk(0, 1, 11);
        y.set(0, 0, -10);
        due("28: truly DOWN, not in thought", y.drawn(0, 0, 60, 1001, 0), -60);
        due("28: truly DOWN, what 2", y.drawn(0, 0, 60, 1001, 2), 0);
    }

    private static final int[] NO_ODDS_PACES = {0, 10, 20, 990, 1000, 1010, 1011, 1019, 1100, -1, -9, -11, MIN, MAX};

    /** A LOT, modulo 100. */
    private static int lotOf(int seed, int second) {
        BigInteger most = BigInteger.valueOf(2147483647);
        BigInteger factor = BigInteger.valueOf(48271).modPow(BigInteger.valueOf(second), most);
        return BigInteger.valueOf(seed + 1).multiply(factor).mod(most).intValue() % 100;
    }

    /** In how many seconds eyes are open. */
    private static int opened(int seed, int seconds, int odds) {
        int many = 0;
        for (int second = 1; second <= seconds; second++) {
            many += lotOf(seed, second) < odds ? 0 : 1;
        }
        return many;
    }

    private static void odds() {
        for (int seed : new int[] {-1, 100000, MIN, MAX}) {
            still("29: SEED " + seed, NO, x -> x.odds(seed, 101, 0, 11, 0, 0));
        }
        for (int v : new int[] {0, 41, 50, 99, 100, 141, 199, 200, 6000, 6041, 6099, 6100, 6101, 6140, -1, -40, -101, MIN, MAX}) {
            still("29: secondsSeeds " + v, NO, x -> x.odds(0, v, 0, 11, 0, 0));
        }
        for (int h : NO_HEADS) {
            still("29: h " + h, NO, x -> x.odds(0, 101, h, 11, 0, 0));
        }
        for (int v : NO_ODDS_PACES) {
            still("29: oddsPace " + v, NO, x -> x.odds(0, 101, 0, v, 0, 0));
        }
        for (int wide : new int[] {-1, 100000, MIN, MAX}) {
            still("29: wide " + wide, NO, x -> x.odds(0, 101, 0, 11, wide, 0));
        }
        for (int part : new int[] {-1, 2, MIN, MAX}) {
            still("29: part " + part, NO, x -> x.odds(0, 101, 0, 11, 0, part));
        }
        due("29: no HEADS", new RoundAndRound().odds(0, 101, 0, 11, 0, 0), NO);
        for (int v : new int[] {1, 40, 101, 140, 6001, 6040}) {
            for (int part = 0; part < 2; part++) {
                int which = part;
                still("29: all, " + v, 1, x -> x.odds(0, v, 0, 1, 0, which));
                still("29: all of the last SEED, " + v, 1, x -> x.odds(99999, v, 2, 1009, 99999, which));
                still("29: all who fall, " + v, 1, x -> x.odds(99999, v, 1, 1001, 0, which));
            }
        }
        for (int seed : new int[] {0, 99960, 99999}) {
            RoundAndRound x = by("builds 0;fades 0;bends eyes*100;", 0, 0);
            for (int seeds : new int[] {1, 2, 3, 12, 39, 40}) {
                for (int wide : new int[] {0, 29, 30, 60, 99999}) {
                    x.set(0, 0, seeds % 2 == 0 ? 10 : -10);
                    oddsOf(x, seed, 1, seeds, wide);
                    oddsOf(x, seed, 60, seeds, wide);
                    oddsOf(x, seed, 0, seeds, wide);
                }
            }
        }
    }

    /** By odds 50: in how many walks eyes are open in no more than wide seconds, each of them 1 aside. */
    private static void oddsOf(RoundAndRound x, int seed, int seconds, int seeds, int wide) {
        int many = 0;
        for (int i = 0; i < seeds; i++) {
            many += opened(seed + i, seconds, 50) <= wide ? 1 : 0;
        }
        int shared = BigInteger.valueOf(many).gcd(BigInteger.valueOf(seeds)).intValue();
        String of = "SEED " + seed + ", seconds " + seconds + ", seeds " + seeds + ", wide " + wide;
        due("29: above, " + of, x.odds(seed, 100 * seconds + seeds, 0, 505, wide, 0), many / shared);
        due("29: below, " + of, x.odds(seed, 100 * seconds + seeds, 0, 505, wide, 1), seeds / shared);
    }

    private static void images() {
        RoundAndRound x = new RoundAndRound();
        due("30: no HEADS", x.image(), 0);
        due("31: no HEADS", x.back(), 0);
        for (int h = 0; h < 5; h++) {
            x.head(h, h);
            x.set(h, 0, 100 + h);
            due("30: how many", x.image(), h + 1);
            x.set(h, 0, 0);
            due("31: how many", x.back(), h + 1);
            due("31: SENSE of the last", x.told(h, 2), 100 + h);
        }
        RoundAndRound y = rich();
        String seen = all(rich());
        due("30: of a rich one", y.image(), 3);
        due("30: nothing can be seen of it but by back()", all(y).substring(0, seen.indexOf(" B")).equals(seen.substring(0, seen.indexOf(" B"))) ? 1 : 0, 1);
        int[][] kept = {{0, 3, 0, 4, 2, 5, 67, 0, 800}, {4, 2, -600, 9, 99, 2, 30, 1, 400}, {5, 9, 10, 3, 13, 2, 30, 0, 800}};
        for (int h = 0; h < 3; h++) {
            for (int what = 0; what < 9; what++) {
                due("31: told " + h + ", " + what, y.told(h, what), kept[h][what]);
            }
        }
        due("31: THE LAW", y.count(2), 1);
    }

    private static void backs() {
        RoundAndRound none = new RoundAndRound();
        none.head(1, 1);
        due("31: no IMAGE", none.back(), STATE);
        due("31: none changes", none.count(0), 1);
        due("31: none changes, KIND", none.told(0, 0), 1);
        RoundAndRound x = rich();
        x.force(2);
        x.head(0, 0);
        x.head(3, 9);
        for (int h = 3; h < 5; h++) {
            x.set(h, 0, 700);
            x.set(h, 1, 8);
            x.set(h, 2, 98);
            x.walk(h, 1, 11);
            x.set(h, 0, 9998);
            x.walk(h, 1, 11);
            due("31: one who came since is DOWN", x.told(h, 7), 1);
        }
        x.sheet(3, 1, 7);
        read(x, ";");
        read(x, HALVES);
        feedAll(x, "abc");
        due("31: HEADS of THE IMAGE", x.back(), 3);
        int[][] kept = {{0, 3, 270, 1, 11, 2, 30, 0, 800}, {4, 2, 286, 2, 12, 2, 30, 0, 400}, {5, 9, 272, 3, 13, 2, 30, 0, 800}};
        for (int turn = 0; turn < 2; turn++) {
            for (int h = 0; h < 3; h++) {
                for (int what = 0; what < 9; what++) {
                    due("31: told " + h + ", " + what, x.told(h, what), kept[h][what]);
                }
                x.set(h, 0, 9999);
                x.set(h, 1, 9);
                x.set(h, 2, 99);
                x.walk(h, 1, 11);
                if (h == turn) {
                    x.up(h);
                }
            }
            due("31: HEADS that came since are none", x.told(3, 0), NO_HEAD);
            due("31: nor the next", x.told(4, 0), NO_HEAD);
            due("31: HEADS", x.count(0), 3);
            due("31: THE LAW", x.count(2), 0);
            due("31: TEXTS stay", x.count(1), 5);
            due("31: THE TAPE stays", x.count(3), 3);
            due("31: SHEETS stay", x.copy(3, 7, 3, 0, 0), 0);
            due("31: a HEAD comes anew", x.head(2, 7), 3);
            due("31: its KIND", x.told(3, 0), 2);
            due("31: its MORE", x.told(3, 1), 7);
            for (int what = 2; what < 8; what++) {
                due("31: as one comes, " + what, x.told(3, what), 0);
            }
            x.force(1);
            due("31: THE IMAGE is kept still", x.back(), 3);
        }
        x.set(0, 0, 5);
        x.head(1, 1);
        due("30: another IMAGE", x.image(), 4);
        x.set(0, 0, 6);
        due("31: of the last IMAGE", x.back(), 4);
        due("31: SENSE of the last IMAGE", x.told(0, 2), 5);
    }

    // ---- the host

    private static void sheets() {
        for (int s : NO_SHEETS) {
            still("32: SHEET " + s, BAD, x -> x.sheet(s, 0, 1));
            still("32: SHEET " + s + ", missing", BAD, x -> x.sheet(s, -1, 1));
            still("32: SHEET " + s + " ahead of n", BAD, x -> x.sheet(s, 0, -1));
        }
        for (int s = 0; s < 4; s++) {
            int row = s;
            for (int sort : new int[] {-2, 3, MIN, MAX}) {
                still("32: sort " + sort, BAD, x -> x.sheet(row, sort, 1));
                still("32: sort " + sort + " ahead of n", BAD, x -> x.sheet(row, sort, -1));
            }
            for (int sort = 0; sort < 3; sort++) {
                int of = sort;
                for (int n : new int[] {41, 42, MAX}) {
                    still("32: n " + n, BAD, x -> x.sheet(row, of, n));
                }
                for (int n : new int[] {-1, -2, MIN}) {
                    still("32: n " + n, BELOW, x -> x.sheet(row, of, n));
                }
                for (int n : new int[] {0, 1, 39, 40}) {
                    RoundAndRound x = rich();
                    due("32: n " + n + " of sort " + sort, x.sheet(s, sort, n), 1);
                    due("32: all 0", x.judge(s, 0, 0, 11), -1);
                    due("32: of that sort", x.headsBy(s, sort, 0, 0), 0);
                    due("32: of no other sort", x.headsBy(s, (sort + 1) % 3, 0, 0), UNLIKE);
                    due("32: so many", x.copy(s, n, s, n, 0), 0);
                    due("32: no more", x.copy(s, n + 1, s, 0, 0), OUTSIDE);
                    due("32: the last", n == 0 ? 1 : x.cell(s, n - 1, 1), 1);
                    due("32: behind the last", x.cell(s, n, 1), OUTSIDE);
                }
            }
            for (int n : new int[] {MIN, -1, 0, 40, 41, MAX}) {
                RoundAndRound x = rich();
                due("32: missing, n " + n, x.sheet(s, -1, n), 1);
                due("32: nothing there", x.copy(s, 0, s, 0, 0), NOTHING);
                due("32: the next one stays", x.judge((s + 1) % 4, 0, 1, 11), s == 2 ? NOTHING : -1);
            }
        }
        still("32: missing still", 1, x -> x.sheet(3, -1, 40));
    }

    private static void cells() {
        for (int s : NO_SHEETS) {
            still("33: SHEET " + s, BAD, x -> x.cell(s, 0, 1));
            still("33: SHEET " + s + " ahead of i", BAD, x -> x.cell(s, -1, 1));
        }
        still("33: a missing SHEET", NOTHING, x -> x.cell(3, 0, 1));
        still("33: a missing SHEET ahead of i", NOTHING, x -> x.cell(3, -1, 1));
        for (int s = 0; s < 3; s++) {
            int row = s;
            for (int i : new int[] {-1, 3 - s, 4 - s, 39, 40, MIN, MAX}) {
                still("33: i " + i, OUTSIDE, x -> x.cell(row, i, 1));
            }
            still("33: what it is", 1, x -> x.cell(row, 0, 25));
            for (int i = 0; i < 3 - s; i++) {
                RoundAndRound x = rich();
                due("33: i " + i, x.cell(s, i, 77), 1);
                due("33: otherwise", x.judge(s, 0, 1, 11), i);
            }
        }
    }

    /** Of bytes the lowest 8 bits are kept, of shorts 16, of ints all; with a sign. */
    private static void cellsCut() {
        int[] v = {127, 128, 129, 255, 256, 257, -1, -128, -129, -256, 25 + 256, 25 - 256, MIN, MAX, MIN + 25};
        int[] kept = {127, -128, -127, -1, 0, 1, -1, -128, 127, 0, 25, 25, 0, -1, 25};
        for (int i = 0; i < v.length; i++) {
            RoundAndRound x = by("builds 0;fades 0;bends 500;", 0, 0);
            x.sheet(0, 0, 1);
            x.cell(0, 0, v[i]);
            x.set(0, 0, 2 * kept[i]);
            due("33: a byte of " + v[i], x.judge(0, 0, 0, 11), -1);
            x.set(0, 0, 2 * kept[i] + 2);
            due("33: a byte of " + v[i] + ", not one more", x.judge(0, 0, 0, 11), 0);
        }
        int[] w = {32767, -32768, 32768, -32769, 98303, -98304, MAX, MIN, MAX - 32768, 65535, 25 + 65536, 25 - 65536};
        int[] left = {32767, -32768, -32768, 32767, 32767, -32768, -1, 0, 32767, -1, 25, 25};
        for (int i = 0; i < w.length; i++) {
            for (int sort = 1; sort <= 2; sort++) {
                boolean far = Math.abs(left[i]) > 1000;
                boolean same = sort == 1 || w[i] == left[i];
                due("33: sort " + sort + " of " + w[i], far ? farCell(sort, w[i], left[i]) : nearCell(sort, w[i], left[i]), same ? -1 : far ? 34 : 0);
            }
        }
        due("33: ints keep more than shorts", nearCell(2, 65536, 0), 0);
        due("33: ints keep the highest bit", nearCell(2, MIN, 0), 0);
    }

    private static int nearCell(int sort, int v, int aside) {
        RoundAndRound x = by("builds 0;fades 0;bends 500;", 0, 0);
        x.sheet(0, sort, 1);
        x.cell(0, 0, v);
        x.set(0, 0, 2 * aside);
        return x.judge(0, 0, 0, 11);
    }

    /** Judges a row of 35 whose last is v, against a TRY that is 32767 or -32768 aside in the last second. */
    private static int farCell(int sort, int v, int aside) {
        int side = aside > 0 ? 1 : -1;
        int first = aside > 0 ? 165 : 166;
        String far = side > 0 ? "sense=979" : "0-sense=979";
        RoundAndRound x = by("builds 0;fades(" + far + ")*2;bends 999-(" + far + ")*(999-" + first + ");", 1, 9);
        x.set(0, 0, side * 979);
        x.sheet(0, sort, 35);
        for (int i = 0; i < 34; i++) {
            x.cell(0, i, side * (first - 4 + 959 * i));
        }
        x.cell(0, 34, v);
        return x.judge(0, 0, 0, 11);
    }

    private static void copies() {
        for (int s : NO_SHEETS) {
            still("34: SHEET " + s, BAD, x -> x.copy(s, 0, 0, 0, 1));
            still("34: the other SHEET " + s, BAD, x -> x.copy(0, 0, s, 0, 1));
            still("34: SHEET " + s + " ahead of a missing one", BAD, x -> x.copy(s, 0, 3, 0, -1));
            still("34: the other SHEET " + s + " ahead of a missing one", BAD, x -> x.copy(3, 0, s, 0, -1));
        }
        still("34: a missing SHEET", NOTHING, x -> x.copy(3, 0, 0, 0, 1));
        still("34: another one missing", NOTHING, x -> x.copy(0, 0, 3, 0, 1));
        still("34: both missing", NOTHING, x -> x.copy(3, 0, 3, 0, 0));
        still("34: missing ahead of outside", NOTHING, x -> x.copy(3, -1, 0, -1, -1));
        int[][] unlike = {{0, 1}, {1, 0}, {0, 2}, {2, 0}, {1, 2}, {2, 1}};
        for (int[] a : unlike) {
            still("34: unlike " + a[0] + ", " + a[1], UNLIKE, x -> x.copy(a[0], 0, a[1], 0, 1));
            still("34: unlike ahead of outside " + a[0] + ", " + a[1], UNLIKE, x -> x.copy(a[0], -1, a[1], -1, -1));
        }
        int[][] outside = {{-1, 0, 1}, {0, -1, 1}, {0, 0, -1}, {0, 0, 4}, {1, 0, 3}, {0, 1, 3}, {2, 0, 2}, {0, 2, 2}, {3, 0, 1}, {0, 3, 1}, {4, 0, 0},
            {0, 4, 0}, {-1, 0, 0}, {0, -1, 0}, {MAX, 0, 1}, {0, MAX, 1}, {0, 0, MAX}, {1, 1, MAX}, {MIN, 0, 1}, {0, MIN, 1}, {0, 0, MIN},
            {MIN, MIN, MIN}, {MAX, MAX, MAX}, {MAX, 0, MIN}, {1, 0, -1}, {0, 1, -1}, {3, 3, -1}};
        for (int[] a : outside) {
            still("34: outside " + a[0] + ", " + a[1] + ", " + a[2], OUTSIDE, x -> x.copy(0, a[0], 0, a[1], a[2]));
        }
        still("34: none at the ends", 0, x -> x.copy(0, 3, 0, 3, 0));
        still("34: none at the first", 0, x -> x.copy(1, 0, 1, 0, 0));
        still("34: all on itself", 3, x -> x.copy(0, 0, 0, 0, 3));
        still("34: the last on itself", 1, x -> x.copy(0, 2, 0, 2, 1));
        copiesWithin();
        copiesAcross();
    }

    /** A row of 1 .. 40, copied in itself each way; each number told by a TRY of so many turns. */
    private static void copiesWithin() {
        int[][] ways = {{0, 1, 39}, {1, 0, 39}, {0, 20, 20}, {20, 0, 20}, {0, 39, 1}, {39, 0, 1}, {5, 7, 9}, {7, 5, 9}, {0, 0, 40}, {0, 40, 0}, {40, 0, 0}};
        for (int sort = 0; sort < 3; sort++) {
            for (int[] a : ways) {
                RoundAndRound x = by("builds 10;fades 0;bends 100;", 0, 0);
                x.sheet(0, sort, 40);
                x.sheet(1, sort, 1);
                for (int i = 0; i < 40; i++) {
                    x.cell(0, i, i + 1);
                }
                due("34: in itself, " + a[0] + " to " + a[1], x.copy(0, a[0], 0, a[1], a[2]), a[2]);
                for (int i = 0; i < 40; i++) {
                    int due = i >= a[1] && i < a[1] + a[2] ? i - a[1] + a[0] + 1 : i + 1;
                    x.copy(0, i, 1, 0, 1);
                    due("34: in itself, " + a[0] + " to " + a[1] + ", number " + i, x.judge(1, 0, due, 11), -1);
                }
            }
        }
    }

    private static void copiesAcross() {
        int[] sizes = {1, 2, 40};
        for (int sort = 0; sort < 3; sort++) {
            for (int size : sizes) {
                RoundAndRound x = by("builds 10;fades 0;bends 100;", 0, 0);
                x.sheet(2, sort, 40);
                x.sheet(3, sort, size);
                for (int i = 0; i < 40; i++) {
                    x.cell(2, i, i + 1);
                }
                due("34: too many for the other", x.copy(2, 0, 3, 0, size + 1), OUTSIDE);
                due("34: just not room", x.copy(2, 0, 3, 1, size), OUTSIDE);
                due("34: too many of the other", size == 40 ? OUTSIDE : x.copy(3, 0, 2, 0, size + 1), OUTSIDE);
                due("34: none came", x.judge(3, 0, 0, 11), -1);
                due("34: to the other's end", x.copy(2, 0, 3, 0, size), size);
                due("34: they came", x.judge(3, 0, 1, 11), -1);
                due("34: they stay", x.judge(2, 0, 1, 11), -1);
                due("34: from one's end", x.copy(2, 40 - size, 3, 0, size), size);
                due("34: these came", x.judge(3, 0, 1, 11), size == 40 ? -1 : 0);
                due("34: back", x.copy(3, 0, 2, 40 - size, size), size);
                due("34: as they were", x.judge(2, 0, 1, 11), -1);
                due("34: the last to the first", x.copy(2, 39, 3, 0, 1), 1);
                due("34: it came", x.judge(3, 0, 40, 11), size == 1 ? -1 : 1);
            }
        }
    }

    private static void headsBy() {
        for (int s : NO_SHEETS) {
            still("35: SHEET " + s, BAD, x -> x.headsBy(s, 2, 0, 1));
            still("35: SHEET " + s + " ahead of a place", BAD, x -> x.headsBy(s, 2, -1, 1));
        }
        for (int s = 0; s < 4; s++) {
            int row = s;
            for (int sort : new int[] {-1, 3, MIN, MAX}) {
                still("35: sort " + sort, BAD, x -> x.headsBy(row, sort, -1, 1));
            }
            for (int n : new int[] {-1, 6, MIN, MAX}) {
                still("35: n " + n, BAD, x -> x.headsBy(row, 2 - row % 3, -1, n));
            }
        }
        for (int sort = 0; sort < 3; sort++) {
            int of = sort;
            still("35: a missing SHEET, sort " + sort, NOTHING, x -> x.headsBy(3, of, -1, 5));
            for (int s = 0; s < 3; s++) {
                int row = s;
                still("35: SHEET " + s + " of sort " + sort, of == 2 - row ? 0 : UNLIKE, x -> x.headsBy(row, of, 0, 0));
                still("35: SHEET " + s + " of sort " + sort + ", outside", of == 2 - row ? OUTSIDE : UNLIKE, x -> x.headsBy(row, of, -1, 1));
            }
        }
        for (int at : new int[] {-2, -1, 2, 3, 4, 40, MIN, MAX, MAX - 1}) {
            still("35: at " + at, OUTSIDE, x -> x.headsBy(0, 2, at, 1));
            still("35: at " + at + ", five", OUTSIDE, x -> x.headsBy(0, 2, at, 5));
            still("35: at " + at + ", none looked at", 0, x -> x.headsBy(0, 2, at, 0));
        }
        still("35: left out", 0, x -> x.headsBy(0, 2, 0, 1));
        still("35: left out, then outside", OUTSIDE, x -> x.headsBy(0, 2, 0, 2));
        for (int sort = 0; sort < 3; sort++) {
            headsByRow(sort);
        }
        headsByFull();
    }

    private static void headsByRow(int sort) {
        int[] row = {0, 0, 5, 9, 6, 0, -1, 0, 0, 10, 0, -1, 3, 4};
        int[][] due = {{0, 1, 1, 0, 0}, {0, 2, 2, 0, 5}, {0, 3, 2, 0, 5}, {2, 5, 1, 5, 0}, {4, 5, 1, 3, 0}, {12, 1, 1, 3, 0}, {10, 2, 1, 3, 0},
            {4, 4, 0, 0, 0}, {3, 1, 0, 0, 0}, {9, 1, 0, 0, 0}, {1, 1, 1, 0, 0}, {7, 1, 1, 0, 0}};
        for (int[] a : due) {
            RoundAndRound x = new RoundAndRound();
            x.sheet(1, sort, row.length);
            for (int i = 0; i < row.length; i++) {
                x.cell(1, i, row[i]);
            }
            String of = "at " + a[0] + ", n " + a[1];
            due("35: " + of, x.headsBy(1, sort, a[0], a[1]), a[2]);
            due("35: how many, " + of, x.count(0), a[2]);
            due("35: KIND of the first, " + of, x.told(0, 0), a[2] > 0 ? a[3] : NO_HEAD);
            due("35: KIND of the second, " + of, x.told(1, 0), a[2] > 1 ? a[4] : NO_HEAD);
        }
        RoundAndRound x = new RoundAndRound();
        x.sheet(1, sort, row.length);
        for (int i = 0; i < row.length; i++) {
            x.cell(1, i, row[i]);
        }
        due("35: outside, what stood ahead came", x.headsBy(1, sort, 12, 2), OUTSIDE);
        due("35: one came", x.count(0), 1);
        due("35: its KIND", x.told(0, 0), 3);
        due("35: its MORE", x.told(0, 1), 4);
        due("35: half outside, what stood ahead came", x.headsBy(1, sort, 11, 2), OUTSIDE);
        due("35: none came, as of head()", x.count(0), 1);
        due("35: half outside, none ahead", x.headsBy(1, sort, 13, 1), OUTSIDE);
        due("35: none came", x.count(0), 1);
        due("35: far outside, what stood ahead came", x.headsBy(1, sort, 6, 5), OUTSIDE);
        due("35: one more", x.count(0), 2);
        for (int what = 2; what < 8; what++) {
            due("35: as one comes, " + what, x.told(1, what), 0);
        }
    }

    private static void headsByFull() {
        RoundAndRound x = new RoundAndRound();
        x.sheet(0, 2, 10);
        for (int i = 0; i < 10; i++) {
            x.cell(0, i, i / 2);
        }
        due("35: five", x.headsBy(0, 2, 0, 5), 5);
        for (int h = 0; h < 5; h++) {
            due("35: KIND " + h, x.told(h, 0), h);
            due("35: MORE " + h, x.told(h, 1), h);
        }
        due("35: no room, all left out", x.headsBy(0, 2, 0, 5), 0);
        due("35: no room, n 0", x.headsBy(0, 2, 0, 0), 0);
        due("35: no room, outside", x.headsBy(0, 2, 2, 5), OUTSIDE);
        due("35: five still", x.count(0), 5);
        due("35: the last still", x.told(4, 0), 4);
        RoundAndRound y = new RoundAndRound();
        y.sheet(0, 2, 40);
        y.head(5, 5);
        y.head(4, 4);
        due("35: three have room", y.headsBy(0, 2, 30, 5), 3);
        due("35: five then", y.count(0), 5);
        due("35: in the last place", y.headsBy(0, 2, 38, 1), 0);
        due("35: behind the last place", y.headsBy(0, 2, 39, 1), OUTSIDE);
        RoundAndRound z = new RoundAndRound();
        z.sheet(0, 0, 0);
        due("35: a row of none, n 0", z.headsBy(0, 0, 0, 0), 0);
        due("35: a row of none", z.headsBy(0, 0, 0, 1), OUTSIDE);
        z.sheet(0, 0, 2);
        z.cell(0, 0, 256 + 3);
        z.cell(0, 1, -256 + 9);
        due("35: by what is kept", z.headsBy(0, 0, 0, 1), 1);
        due("35: KIND by what is kept", z.told(0, 0), 3);
        due("35: MORE by what is kept", z.told(0, 1), 9);
    }

    private static void taken() {
        for (int kind : new int[] {-1, 7, MIN, MAX}) {
            still("36: kind " + kind, BAD, x -> x.taken(0, kind));
            still("36: kind " + kind + " ahead of i", BAD, x -> x.taken(-1, kind));
        }
        for (int i : new int[] {-1, 10, 11, MIN, MAX}) {
            for (int kind : new int[] {0, 5, 6}) {
                still("36: i " + i, OUTSIDE, x -> x.taken(i, kind));
            }
        }
        for (int i : new int[] {3, 4, 8, 9}) {
            for (int kind = 0; kind <= 6; kind++) {
                int of = kind;
                still("36: nothing at " + i, NOTHING, x -> x.taken(i, of));
            }
        }
        int[][] due = {{0, UNLIKE, UNLIKE, UNLIKE, UNLIKE, UNLIKE, UNLIKE}, {1, UNLIKE, 1, UNLIKE, 1, UNLIKE, UNLIKE},
            {2, UNLIKE, UNLIKE, UNLIKE, UNLIKE, 2, UNLIKE}};
        for (int h = 0; h < 3; h++) {
            int one = h;
            for (int kind = 0; kind <= 6; kind++) {
                int of = kind;
                still("36: HEAD " + h + " for " + kind, due[h][kind], x -> x.taken(one, of));
                still("36: whether HEAD " + h + " is DOWN for " + kind, kind < 6 ? UNLIKE : h == 1 ? 1 : 0, x -> x.taken(one + 5, of));
            }
        }
        RoundAndRound x = new RoundAndRound();
        due("36: no HEADS", x.taken(0, 0), NOTHING);
        due("36: no HEADS, DOWN", x.taken(5, 6), NOTHING);
        String[] are = {"0", "01", "02", "013", "024"};
        for (int h = 0; h < 5; h++) {
            x.head(h, 9);
            for (int kind = 0; kind <= 6; kind++) {
                due("36: KIND " + h + " for " + kind, x.taken(h, kind), are[h].indexOf('0' + kind) >= 0 ? h : UNLIKE);
            }
        }
        due("36: the last is not DOWN", x.taken(9, 6), 0);
        x.set(4, 0, 400);
        x.walk(4, 1, 11);
        due("36: the last is DOWN", x.taken(9, 6), 1);
        due("36: the last", x.taken(4, 4), 4);
    }

    // ---- the last HEAD of five, by the last TEXT of six

    /** HEAD 4 has SENSE 700 and builds 10, the others have SENSE 0 and build 5; TEXT 5 is THE LAW; SHEET 0 tells 72. */
    private static RoundAndRound lastOnes() {
        RoundAndRound x = new RoundAndRound();
        for (int t = 1; t <= 4; t++) {
            due("4: a TEXT ahead of the last", read(x, "builds " + t + ";fades 2;bends " + t + ";"), t);
        }
        due("4: the last TEXT", read(x, "builds 5+cake*5;fades used;bends 100;"), 5);
        x.force(5);
        for (int h = 0; h < 5; h++) {
            x.head(0, 0);
        }
        x.set(4, 0, 700);
        x.set(4, 1, 1);
        x.sheet(0, 2, 1);
        x.cell(0, 0, 72);
        return x;
    }

    private static void lastOnesTried() {
        RoundAndRound x = lastOnes();
        due("6: the last", x.asks(0, 4, 0), 10);
        due("6: the first", x.asks(0, 0, 0), 5);
        due("14: the last", x.ends(4, 2, 11, 1, 1), 72);
        due("14: the last, behind a WAIT", x.ends(4, 2, 6011, 1, 1), 72);
        due("14: the first", x.ends(0, 2, 11, 1, 1), 1);
        due("15: the last", x.stands(4, 1), 9);
        due("15: the first", x.stands(0, 1), 40);
        due("16: the last", x.undo(4, 1, 1), 300);
        due("16: the first", x.undo(0, 1, 1), 0);
        due("17: the last", x.fine(4, 700), -1);
        due("17: the first", x.fine(0, 700), 0);
        due("18: the last", x.race(4, 2, 11, 1072, 0), 0);
        due("18: the last, one less wide", x.race(4, 2, 11, 1071, 0), -1);
        due("18: the first", x.race(0, 2, 11, 1001, 0), 0);
        due("19: the first", x.wins(2, 11, 1001, 0), 0);
        due("20: the last", x.pace(4, 2, 1, 9, 1), 72);
        due("20: the first", x.pace(0, 2, 1, 9, 1), 1);
        due("21: the last", x.roses(4, 11, 1, 75, 0), 5);
        due("21: the first", x.roses(0, 11, 1, 75, 0), 40);
        due("28: the last", x.drawn(0, 4, 1, 11, 0), 70);
        due("28: the first", x.drawn(0, 0, 1, 11, 0), 0);
        due("29: the last", x.odds(0, 101, 4, 11, 69, 0), 0);
        due("29: the last, one more wide", x.odds(0, 101, 4, 11, 70, 0), 1);
        due("29: the first", x.odds(0, 101, 0, 11, 0, 0), 1);
        long[] none = {x.told(5, 0), x.set(5, 0, 0), x.turn(5, 0, 1), x.rest(5, 0, 1), x.walk(5, 0, 11), x.up(5), x.ends(5, 0, 11, 0, 0),
            x.stands(5, 1), x.undo(5, 1, 0), x.fine(5, 1), x.race(5, 0, 11, 1000, 0), x.pace(5, 0, 1, 1, 0), x.roses(5, 11, 0, 0, 0),
            x.drawn(0, 5, 0, 11, 0)};
        for (int i = 0; i < none.length; i++) {
            due("8 .. 28: none behind the last, call " + i, none[i], NO_HEAD);
        }
        due("6: none behind the last", x.asks(0, 5, 0), BAD);
        due("29: none behind the last", x.odds(0, 101, 5, 11, 0, 0), NO);
    }

    private static void lastOnesTold() {
        RoundAndRound x = lastOnes();
        due("22: the last", x.judge(0, 4, 2, 11), -1);
        due("22: the first", x.judge(0, 0, 2, 11), 0);
        due("23: the last", x.turned(0, 4, 11, 1), 2);
        due("23: to the left", x.turned(0, 4, 11, 0), 1);
        due("23: the first", x.turned(0, 0, 11, 1), -100);
        due("24: the last", x.kinds(0, 4, 2, 11, 2), 2);
        due("24: the first", x.kinds(0, 0, 2, 11, 2), 0);
        due("25: the last", x.laws(0, 4, 2, 11), 32);
        due("25: the first", x.laws(0, 0, 2, 11), 0);
        due("26: the last", x.whose(0, 2, 11), 16);
        due("27: the last", x.film(1, 4, 2, 11, 1), 1);
        due("27: as told", x.judge(1, 4, 2, 11), -1);
        due("27: not of the first", x.judge(1, 0, 2, 11), 0);
        x.cell(0, 0, 62);
        due("23: the last, to the left", x.turned(0, 4, 11, 1), -8);
        int[] none = {x.judge(0, 5, 0, 11), x.turned(0, 5, 11, 0), x.kinds(0, 5, 0, 11, 0), x.laws(0, 5, 0, 11), x.film(0, 5, 0, 11, 0)};
        for (int i = 0; i < none.length; i++) {
            due("22 .. 27: none behind the last, call " + i, none[i], NOBODY);
        }
    }

    private static void lastOnesTruly() {
        RoundAndRound x = lastOnes();
        due("10: the last", x.turn(4, 2, 1), 720);
        due("11: the last", x.rest(4, 1, 1), 713);
        due("12: the last", x.walk(4, 1, 11), 71);
        due("30: the last, too", x.image(), 5);
        due("13: the last", x.up(4), 71);
        due("8: the last", x.set(4, 0, 1), 706);
        for (int h = 0; h < 4; h++) {
            for (int what = 0; what < 8; what++) {
                due("9: the others are as they were, " + h + ", " + what, x.told(h, what), 0);
            }
        }
        x.force(1);
        due("31: the last, too", x.back(), 5);
        due("31: THE LAW, the last TEXT", x.count(2), 5);
        int[] last = {0, 0, 706, 1, 1, 1, 71, 0, 800};
        for (int what = 0; what < 9; what++) {
            due("31: the last, " + what, x.told(4, what), last[what]);
        }
    }
}
