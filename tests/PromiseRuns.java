/** For each promise answers worked out by hand from the document: usual ones, edges, refusals. */
public final class PromiseRuns {
    private static final int NO_HEAD = -100005, ILL = -100007;
    /** Easy to reckon by hand: a turn builds 100, half of it fades, a second bends half of what is left. */
    private static final String HALVES = "builds 100;fades 50;bends 500;";
    private static int wrong = 0;

    public static void main(String[] args) {
        newObject();
        counting();
        feeding();
        feedingByFive();
        speedsAndPaces();
        reading();
        readingDeep();
        readingFull();
        forcing();
        asking();
        askingWords();
        making();
        setting();
        telling();
        turning();
        turningKinds();
        resting();
        walking();
        falling();
        risingUp();
        ending();
        standing();
        undoing();
        beingFine();
        racing();
        winning();
        pacing();
        rosing();
        judging();
        turningTold();
        kindsTold();
        lawsAndWhose();
        filming();
        drawing();
        reckoningOdds();
        imaging();
        sheeting();
        copying();
        headingBy();
        taking();
        System.out.println(wrong == 0 ? "all answers are as due" : wrong + " answers are not as due");
        if (wrong != 0) {
            System.exit(1);
        }
    }

    private static void due(String call, long got, long want) {
        if (got != want) {
            wrong++;
            System.out.println(call + " answered " + got + ", due is " + want);
        }
    }

    private static void feedAll(RoundAndRound x, String text) {
        for (int i = 0; i < text.length(); i++) {
            x.feed(1, text.charAt(i), 0, 0, 0, 0);
        }
    }

    private static int read(RoundAndRound x, String text) {
        feedAll(x, text);
        return x.text();
    }

    /** An object whose law is that text, with one HEAD of kind 0 and MORE 2. */
    private static RoundAndRound by(String text) {
        RoundAndRound x = new RoundAndRound();
        due("text of " + text, read(x, text), 1);
        due("force(1)", x.force(1), 0);
        due("head(0, 2)", x.head(0, 2), 0);
        return x;
    }

    private static void newObject() {
        RoundAndRound x = new RoundAndRound();
        due("1: count(0)", x.count(0), 0);
        due("1: count(1)", x.count(1), 1);
        due("1: count(2)", x.count(2), 0);
        due("1: count(3)", x.count(3), 0);
        due("1: told(0, 0)", x.told(0, 0), NO_HEAD);
        due("1: back()", x.back(), RoundAndRound.STATE);
        for (int s = 0; s < 4; s++) {
            due("1: cell(" + s + ", 0, 1)", x.cell(s, 0, 1), -11);
        }
    }

    private static void counting() {
        RoundAndRound x = new RoundAndRound();
        due("2: count(-1)", x.count(-1), RoundAndRound.BAD);
        due("2: count(4)", x.count(4), RoundAndRound.BAD);
        x.head(0, 0);
        x.head(1, 0);
        read(x, HALVES);
        x.force(1);
        x.feed(3, 1, 2, 3, 0, 0);
        due("2: count(0)", x.count(0), 2);
        due("2: count(1)", x.count(1), 2);
        due("2: count(2)", x.count(2), 1);
        due("2: count(3)", x.count(3), 3);
    }

    private static void feeding() {
        RoundAndRound x = new RoundAndRound();
        due("3: n 0", x.feed(0, 1, 1, 1, 1, 1), -2);
        due("3: n 6", x.feed(6, 1, 1, 1, 1, 1), -2);
        due("3: a", x.feed(5, -1, 1, 1, 1, 1), -2);
        due("3: b", x.feed(1, 1, 256, 1, 1, 1), -2);
        due("3: c", x.feed(1, 1, 1, -1, 1, 1), -2);
        due("3: d", x.feed(1, 1, 1, 1, 256, 1), -2);
        due("3: e", x.feed(1, 1, 1, 1, 1, 256), -2);
        due("3: none came", x.count(3), 0);
        due("3: 0 and 255", x.feed(2, 0, 255, 0, 0, 0), 2);
        for (int i = 0; i < 31; i++) {
            due("3: five", x.feed(5, 1, 2, 3, 4, 5), 7 + 5 * i);
        }
        due("3: full", x.feed(4, 1, 1, 1, 1, 1), RoundAndRound.FULL);
        due("3: bad ahead of full", x.feed(4, 1, 1, 1, 1, 256), RoundAndRound.BAD);
        due("3: none came of four", x.count(3), 157);
        due("3: just so much", x.feed(3, 1, 1, 1, 1, 1), 160);
        due("3: quite full", x.feed(1, 1, 1, 1, 1, 1), RoundAndRound.FULL);
    }

    private static void feedingByFive() {
        RoundAndRound x = new RoundAndRound();
        x.head(0, 0);
        for (int i = 0; i < HALVES.length(); i += 5) {
            int[] b = new int[5];
            for (int j = 0; j < 5; j++) {
                b[j] = HALVES.charAt(i + j);
            }
            due("3: five by five", x.feed(5, b[0], b[1], b[2], b[3], b[4]), i + 5);
        }
        due("3: a text five by five", x.text(), 1);
        x.force(1);
        due("3: builds", x.asks(0, 0, 0), 100);
        due("3: fades", x.asks(1, 0, 0), 50);
        due("3: bends", x.asks(2, 0, 0), 500);
    }

    /** SPEED and PACE are told in one number: each counts for its own. */
    private static void speedsAndPaces() {
        RoundAndRound x = by("builds speed*100;fades 0;bends speed*100;");
        due("14: speed 2, pace 3", x.ends(0, 1, 523, 2, 1), 120);
        due("14: pace 3", x.ends(0, 1, 523, 2, 2), 6);
        due("18: 60 aside", x.race(0, 1, 23, 3060, 0), 0);
        due("18: not 59", x.race(0, 1, 23, 3059, 0), -1);
        due("18: a second", x.race(0, -1, 23, 3060, 1), 1);
        due("18: two seconds", x.race(0, -1, 23, 4120, 1), 2);
        due("19: it wins", x.wins(-1, 23, 4120, 0), 0);
        due("19: in two seconds", x.wins(-1, 23, 4120, 1), 2);
        due("20: far 1", x.pace(0, 1, 1, 1, 1), 10);
        due("20: far 1, pace", x.pace(0, 1, 1, 1, 0), 1);
        due("21: turned once", x.roses(0, 23, 1, 60, 0), 1);
        due("21: there", x.roses(0, 23, 1, 60, 1), 0);
        x.sheet(0, 2, 2);
        x.cell(0, 0, 60);
        x.cell(0, 1, 120);
        due("22: as told", x.judge(0, 0, 1, 23), -1);
        due("23: one way", x.turned(0, 0, 23, 0), 1);
        due("23: that way", x.turned(0, 0, 23, 1), 1);
        due("24: kind 0", x.kinds(0, 0, 1, 23, 0), 1);
        due("24: any more", x.kinds(0, 0, 1, 23, 1), 1023);
        due("25: text 1", x.laws(0, 0, 1, 23), 2);
        due("26: head 0", x.whose(0, 1, 23), 1);
        x.film(1, 0, 1, 23, 2);
        due("27: the same", x.copy(1, 0, 0, 0, 2), 2);
        due("27: as filmed", x.judge(0, 0, 1, 23), -1);
        for (int v = 100; v < 110; v++) {
            due("14: wait 61, speed 0", x.ends(0, 1, 6000 + v, 1, 0), ILL);
            due("18: speed 10", x.race(0, 1, v, 3060, 0), ILL);
            due("21: speed 10", x.roses(0, v, 1, 60, 0), ILL);
            due("22: speed 10", x.judge(0, 0, 1, v), -7);
        }
        x.head(0, 0);
        x.set(1, 0, 1);
        due("18: in thought from along and aside 0", x.race(1, 0, 11, 1000, 0), 0);
        x.walk(0, 5, 91);
        x.set(0, 0, 9);
        x.walk(0, 60, 91);
        due("18: also behind a true walk", x.race(0, 0, 11, 1000, 0), 0);
    }

    private static void reading() {
        String[] faults = {"", " \n", "a", "Builds 1;", "\tbuilds 1;", "builds", "builds 12345;", "builds xyz;", "builds 1 2;",
            "builds 1;bends 1;", "builds 1<2<3", "builds not 1 + not 1", "builds 1;fades 1;bends 1", "builds 1;fades 1;bends 1 \n",
            "builds 1;fades 1;bends 1;x", "builds 1;fades 1;bends 1;;", "builds speedcake;", "builds 1speed;", "builds builds;",
            "builds ();", "builds (1;", "builds 1);", "builds 1 or;", "builds +1;", "builds 1 not", "builds 1=not 1", "builds buildss",
            "builds 0 > 1", "buildsx 1", "builds 1;fades 1;bends 1;\0", "builds 1;fadesz 1;", "builds zz"};
        int[] places = {0, 2, 0, 0, 0, 6, 7, 7, 9, 9, 10, 15, 24, 26, 25, 25, 7, 8, 7, 8, 9, 8, 11, 7, 9, 9, 7, 9, 0, 25, 9, 7};
        RoundAndRound x = new RoundAndRound();
        for (int i = 0; i < faults.length; i++) {
            due("4: fault of " + faults[i], read(x, faults[i]), -100 - places[i]);
            due("4: empty tape behind " + faults[i], x.count(3), 0);
            due("4: texts behind " + faults[i], x.count(1), 1);
        }
        due("4: a text", read(x, "builds 1;fades 2;bends 3;"), 1);
        due("4: empty tape behind a text", x.count(3), 0);
        due("4: a close text", read(x, "builds1;fades(2)bends3;"), -100 - 16);
        due("4: a closer text", read(x, "builds1234;fades(2);bends-not1;"), -100 - 26);
        due("4: a wide text", read(x, "\n builds\n1 ;fades 2 ;\n bends not 3 ;\n "), 2);
        due("4: count(1)", x.count(1), 3);
        x.head(0, 0);
        x.force(1);
        due("4: builds, behind faults", x.asks(0, 0, 0), 1);
        due("4: fades, behind faults", x.asks(1, 0, 0), 2);
        due("4: bends, behind faults", x.asks(2, 0, 0), 3);
    }

    private static void readingDeep() {
        RoundAndRound x = new RoundAndRound();
        due("4: six (", read(x, "builds ((((((1"), -112);
        due("4: six -", read(x, "builds ------1"), -112);
        due("4: six not", read(x, "builds not not not not not not 1"), -127);
        due("4: - in five (", read(x, "builds ((((( -1"), -113);
        due("4: not in five (", read(x, "builds (((((not 1"), -112);
        due("4: ( in five of each", read(x, "builds not ( - ( - (1"), -119);
        due("4: five times five", read(x, "builds (((((1-1)))))+(((((2)))))*-----3;fades not not not not not 1;bends not(not(-1))<-(-1);"), 1);
        due("4: of five ( , 0 - 6 * ..", x.asks(0, 0, 0), -2);
        x.head(0, 0);
        x.force(1);
        due("4: builds 0 + 2 * -3", x.asks(0, 0, 0), 0);
        due("4: fades 0", x.asks(1, 0, 0), 0);
        due("4: bends not (not -1 < - -1)", x.asks(2, 0, 0), 0);
        String level = "1or 0and 1<2+3*(";
        String all = "builds " + level + level + level + level + level + "1or 0and 1<2+3*4)))));fades 1;bends 1;";
        due("4: much waits at once", read(x, all), 2);
        x.force(2);
        due("4: said of it", x.asks(0, 0, 0), 1);
        String twos = "2-2+1<2+2*(";
        due("4: more waits", read(x, "builds " + twos + twos + twos + twos + twos + "7)))));fades 1;bends 1;"), 3);
        x.force(3);
        due("4: said of that", x.asks(0, 0, 0), 1);
    }

    private static void readingFull() {
        RoundAndRound x = new RoundAndRound();
        for (int i = 1; i <= 5; i++) {
            due("4: text " + i, read(x, HALVES), i);
        }
        x.feed(1, 'X', 0, 0, 0, 0);
        due("4: full ahead of the fault", x.text(), RoundAndRound.FULL);
        due("4: the tape stays", x.count(3), 1);
        due("4: six texts", x.count(1), 6);
        RoundAndRound y = new RoundAndRound();
        StringBuilder wide = new StringBuilder("builds 1;fades 1;bends 1;");
        while (wide.length() < 160) {
            wide.append(' ');
        }
        due("4: 160 bytes", read(y, wide.toString()), 1);
        wide.setCharAt(159, 'x');
        due("4: a fault in the last of 160 bytes", read(y, wide.toString()), -259);
        wide.setCharAt(24, ' ');
        wide.setCharAt(159, ' ');
        due("4: 160 bytes that end too early", read(y, wide.toString()), -260);
    }

    private static void forcing() {
        RoundAndRound x = new RoundAndRound();
        due("5: force(1)", x.force(1), -2);
        due("5: force(-1)", x.force(-1), -2);
        due("5: force(0)", x.force(0), 0);
        read(x, HALVES);
        due("5: force(1)", x.force(1), 0);
        due("5: force(2)", x.force(2), -2);
        due("5: the law", x.count(2), 1);
        due("5: force(0)", x.force(0), 1);
    }

    private static void asking() {
        RoundAndRound x = by("builds speed*100+cake*10+eyes;fades used-1;bends more*100+sense;");
        due("6: part -1", x.asks(-1, 0, 0), -2);
        due("6: part 3", x.asks(3, 0, 0), -2);
        due("6: h 1", x.asks(0, 1, 0), -2);
        due("6: h -1", x.asks(0, -1, 0), -2);
        due("6: speedEyes -1", x.asks(0, 0, -1), -2);
        due("6: speedEyes 2", x.asks(0, 0, 2), -2);
        due("6: speedEyes 92", x.asks(0, 0, 92), -2);
        due("6: speedEyes 100", x.asks(0, 0, 100), -2);
        x.set(0, 1, 7);
        due("6: speed 3, eyes 1", x.asks(0, 0, 31), 371);
        due("6: speed 9, eyes 0", x.asks(0, 0, 90), 970);
        due("6: speed 0, eyes 0", x.asks(0, 0, 0), 70);
        due("6: fades at least 0", x.asks(1, 0, 11), 0);
        x.set(0, 2, 34);
        due("6: fades", x.asks(1, 0, 11), 33);
        x.set(0, 0, -9);
        due("6: bends", x.asks(2, 0, 11), 191);
        x.set(0, 0, -900);
        due("6: bends at least 0", x.asks(2, 0, 11), 0);
        x.set(0, 0, 900);
        due("6: bends at most 999", x.asks(2, 0, 11), 999);
        RoundAndRound y = by("builds 1000;fades 101;bends 999;");
        due("6: builds at most 999", y.asks(0, 0, 11), 999);
        due("6: fades at most 100", y.asks(1, 0, 11), 100);
        RoundAndRound z = new RoundAndRound();
        z.head(4, 9);
        due("6: what the text says, not what one of a kind builds", z.asks(0, 0, 50), 70);
        due("6: nor fades", z.asks(1, 0, 1), 10);
        due("6: bends", z.asks(2, 0, 11), 100);
    }

    private static void askingWords() {
        String[] said = {"1 or 0 and 0", "(1 or 0) and 0", "2+3*4=14", "(2+3)*4", "not 0=1", "(not 0)=1", "9-3-2", "-3+5", "2--3", "7 and 8",
            "0 or 0", "0 or 5", "not 7", "not not 7", "3<3", "2<3", "3<2", "-1<0", "9999*9999*9999<0", "9999*9999*9999*9999<0",
            "-(9999*9999*22-9999*9999*44)<0", "(5)", "010", "0-1 and 1", "1=1=1"};
        int[] due = {1, 0, 1, 20, 1, 1, 4, 2, 5, 1, 0, 1, 0, 1, 0, 1, 0, 1, wraps(3), wraps(4), 1, 5, 10, 1, -111};
        for (int i = 0; i < said.length; i++) {
            RoundAndRound x = new RoundAndRound();
            int number = read(x, "builds " + said[i] + ";fades 1;bends 1;");
            if (due[i] < 0) {
                due("6: no text of " + said[i], number, due[i] + 1);
                continue;
            }
            due("6: text of " + said[i], number, 1);
            x.force(1);
            x.head(0, 0);
            due("6: " + said[i], x.asks(0, 0, 0), due[i]);
        }
    }

    private static int wraps(int times) {
        int v = 1;
        for (int i = 0; i < times; i++) {
            v *= 9999;
        }
        return v < 0 ? 1 : 0;
    }

    private static void making() {
        RoundAndRound x = new RoundAndRound();
        due("7: kind -1", x.head(-1, 0), -2);
        due("7: kind 6", x.head(6, 0), -2);
        due("7: more -1", x.head(0, -1), -2);
        due("7: more 10", x.head(0, 10), -2);
        for (int i = 0; i < 5; i++) {
            due("7: head", x.head(5 - i, 9 - i), i);
            due("7: kind", x.told(i, 0), 5 - i);
            due("7: more", x.told(i, 1), 9 - i);
        }
        due("7: full", x.head(0, 0), RoundAndRound.FULL);
        due("7: bad ahead of full", x.head(0, 10), RoundAndRound.BAD);
        due("7: five", x.count(0), 5);
    }

    private static void setting() {
        RoundAndRound x = new RoundAndRound();
        due("8: nobody", x.set(0, 9, 0), NO_HEAD);
        x.head(0, 0);
        due("8: nobody at 1", x.set(1, 0, 0), NO_HEAD);
        due("8: nobody at -1", x.set(-1, 0, 0), NO_HEAD);
        due("8: what -1", x.set(0, -1, 0), ILL);
        due("8: what 3", x.set(0, 3, 0), ILL);
        int[] low = {-9999, 0, 0};
        int[] high = {9999, 9, 99};
        for (int what = 0; what < 3; what++) {
            due("8: too low", x.set(0, what, low[what] - 1), ILL);
            due("8: too high", x.set(0, what, high[what] + 1), ILL);
            due("8: highest", x.set(0, what, high[what]), 0);
            due("8: lowest", x.set(0, what, low[what]), high[what]);
            due("8: back to 0", x.set(0, what, 0), low[what]);
            x.set(0, what, what + 1);
        }
        for (int what = 0; what < 3; what++) {
            due("8: told", x.told(0, 2 + what), what + 1);
        }
    }

    private static void telling() {
        RoundAndRound x = new RoundAndRound();
        due("9: nobody", x.told(0, 9), NO_HEAD);
        int[] falls = {800, 860, 800, 860, 400, 800};
        for (int kind = 0; kind < 5; kind++) {
            x.head(kind, 3);
            due("9: falls", x.told(kind, 8), falls[kind]);
            due("9: kind", x.told(kind, 0), kind);
        }
        due("9: what -1", x.told(0, -1), ILL);
        due("9: what 9", x.told(0, 9), ILL);
        due("9: nobody at 5", x.told(5, 0), NO_HEAD);
        RoundAndRound y = new RoundAndRound();
        y.head(5, 9);
        due("9: falls of kind 5", y.told(0, 8), falls[5]);
    }

    private static void turning() {
        RoundAndRound x = by(HALVES);
        due("10: nobody", x.turn(1, 41, 1), NO_HEAD);
        due("10: n 41", x.turn(0, 41, 1), ILL);
        due("10: n -41", x.turn(0, -41, 1), ILL);
        due("10: speed 0", x.turn(0, 1, 0), ILL);
        due("10: speed 10", x.turn(0, 1, 10), ILL);
        due("10: refusals leave USED", x.told(0, 4), 0);
        due("10: once", x.turn(0, 1, 1), 50);
        due("10: twice", x.turn(0, 1, 1), 75);
        due("10: used", x.told(0, 4), 2);
        due("10: none", x.turn(0, 0, 1), 75);
        due("10: used of none", x.told(0, 4), 3);
        due("10: left", x.turn(0, -1, 1), -13);
        due("10: left, three", x.turn(0, -3, 1), -90);
        x.set(0, 2, 98);
        x.turn(0, 0, 1);
        due("10: used 99", x.told(0, 4), 99);
        x.turn(0, 0, 1);
        due("10: used 99 at most", x.told(0, 4), 99);
        RoundAndRound y = by("builds used*10+(1-eyes)*500;fades eyes*10;bends 1;");
        due("10: used counts behind the turns", y.turn(0, 2, 1), 0);
        due("10: used 1", y.turn(0, 1, 1), 9);
        RoundAndRound z = by("builds 999;fades 0;bends 1;");
        due("10: at most 9999", z.turn(0, 40, 1), 9999);
        due("10: from the bound", z.turn(0, -1, 1), 9000);
        due("10: at least -9999", z.turn(0, -40, 1), -9999);
        due("10: not down", z.told(0, 7), 0);
        z.walk(0, 1, 11);
        due("10: down", z.told(0, 7), 1);
        due("10: also one who is down", z.turn(0, 1, 1), -9000);
        RoundAndRound w = by("builds sense<100;fades sense*10;bends 1;");
        due("10: sense as it is then", w.turn(0, 2, 1), 2);
        due("10: still", w.turn(0, 1, 1), 3);
        due("10: fades 40 of a hundred of 4", w.turn(0, 1, 1), 3);
    }

    private static void turningKinds() {
        int[] slow = {50, 25, 41, 25, 74, 51};
        int[] quick = {50, 25, 41, 13, 74, 55};
        for (int kind = 0; kind < 6; kind++) {
            RoundAndRound x = by(HALVES);
            x.head(kind, 2);
            due("10: kind " + kind + " with speed 4", x.turn(1, 1, 4), kind == 5 ? 54 : slow[kind]);
            x.set(1, 0, 0);
            due("10: kind " + kind + " with speed 5", x.turn(1, 1, 5), quick[kind]);
            x.set(1, 0, 0);
            due("10: kind " + kind + " with speed 1", x.turn(1, 1, 1), slow[kind]);
        }
        RoundAndRound y = by("builds 7;fades 100;bends 1;");
        y.head(2, 9);
        y.head(4, 9);
        y.head(3, 0);
        due("10: builds at least 0", y.turn(1, 5, 1), 0);
        y.set(1, 0, 100);
        due("11: fades at most 100", y.rest(1, 1, 1), 0);
        y.set(2, 0, 100);
        due("11: a third of 105", y.rest(2, 1, 1), 65);
        RoundAndRound z = by("builds 7;fades 0;bends 1;");
        z.head(1, 0);
        z.head(3, 0);
        z.head(2, 0);
        z.head(4, 0);
        due("10: half of 7", z.turn(1, 1, 9), 3);
        due("10: half of half of 7", z.turn(2, 1, 9), 1);
        z.set(3, 0, 100);
        due("11: fades 5 more", z.rest(3, 1, 1), 95);
        z.set(4, 0, 100);
        due("11: a third of 5", z.rest(4, 1, 1), 99);
    }

    private static void resting() {
        RoundAndRound x = by("builds speed;fades 50+speed-eyes*25;bends 1;");
        due("11: nobody", x.rest(1, 61, 1), NO_HEAD);
        due("11: seconds -1", x.rest(0, -1, 1), ILL);
        due("11: seconds 61", x.rest(0, 61, 1), ILL);
        due("11: eyes -1", x.rest(0, 1, -1), ILL);
        due("11: eyes 2", x.rest(0, 1, 2), ILL);
        x.set(0, 0, 1000);
        due("11: none", x.rest(0, 0, 1), 1000);
        due("11: open", x.rest(0, 1, 1), 750);
        due("11: shut", x.rest(0, 1, 0), 375);
        due("11: two, shut", x.rest(0, 2, 0), 94);
        x.set(0, 0, -75);
        due("11: cut toward 0", x.rest(0, 1, 0), -38);
        due("11: 60", x.rest(0, 60, 0), -1);
        due("11: told", x.told(0, 2), -1);
        due("11: used stays", x.told(0, 4), 0);
    }

    private static void walking() {
        RoundAndRound x = by(HALVES);
        due("12: nobody", x.walk(1, 61, 11), NO_HEAD);
        due("12: seconds -1", x.walk(0, -1, 11), ILL);
        due("12: seconds 61", x.walk(0, 61, 11), ILL);
        due("12: paceEyes 9", x.walk(0, 1, 9), ILL);
        due("12: paceEyes 1", x.walk(0, 1, 1), ILL);
        due("12: paceEyes 12", x.walk(0, 1, 12), ILL);
        due("12: paceEyes 92", x.walk(0, 1, 92), ILL);
        due("12: paceEyes 100", x.walk(0, 1, 100), ILL);
        due("12: paceEyes -11", x.walk(0, 1, -11), ILL);
        x.set(0, 0, 75);
        due("12: none", x.walk(0, 0, 31), 0);
        due("12: one", x.walk(0, 1, 31), 37);
        due("12: sense", x.told(0, 2), 38);
        due("12: along", x.told(0, 5), 3);
        due("12: one more, shut", x.walk(0, 1, 90), 56);
        due("12: along 12", x.told(0, 5), 12);
        x.set(0, 0, -75);
        due("12: left", x.walk(0, 2, 11), 56 - 37 - 19);
        due("12: aside", x.told(0, 6), 0);
        due("12: along 14", x.told(0, 5), 14);
        RoundAndRound y = by("builds 1;fades speed+eyes;bends speed*100+eyes*10;");
        y.set(0, 0, 100);
        due("12: bends of PACE, eyes open", y.walk(0, 1, 21), 21);
        due("12: fades of speed 0, eyes open", y.told(0, 2), 99);
        due("12: bends of PACE, eyes shut", y.walk(0, 1, 20), 40);
        due("12: fades of speed 0, eyes shut", y.told(0, 2), 99);
        RoundAndRound z = by("builds 1;fades 0;bends 999;");
        z.set(0, 0, 799);
        for (int i = 0; i < 2; i++) {
            due("12: wide", z.walk(0, 60, 91), 798 * 60 * (i + 1));
        }
        due("12: at most 99999", z.walk(0, 60, 91), 99999);
        z.set(0, 0, -799);
        due("12: back from the bound", z.walk(0, 1, 91), 99999 - 798);
        for (int i = 0; i < 5; i++) {
            z.walk(0, 60, 91);
        }
        due("12: at least -99999", z.told(0, 6), -99999);
        due("12: along", z.told(0, 5), 9 * (180 + 1 + 300));
    }

    private static void falling() {
        RoundAndRound x = by("builds 1;fades 1;bends 100;");
        x.set(0, 0, 800);
        due("12: falls from 800 on", x.walk(0, 1, 11), 0);
        due("12: down", x.told(0, 7), 1);
        due("12: nothing else happens", x.told(0, 2), 800);
        due("12: nor along", x.told(0, 5), 0);
        x.set(0, 0, 10);
        due("12: stays so", x.walk(0, 5, 11), 0);
        due("12: nothing happens", x.told(0, 2), 10);
        x.up(0);
        x.set(0, 0, -800);
        x.walk(0, 1, 11);
        due("12: down to the left", x.told(0, 7), 1);
        x.up(0);
        x.set(0, 0, 799);
        due("12: not from 799", x.walk(0, 1, 11), 79);
        due("12: not down", x.told(0, 7), 0);
        x.head(4, 9);
        x.set(1, 0, 400);
        x.walk(1, 1, 11);
        due("12: queasy ones from 400", x.told(1, 7), 1);
        x.head(1, 1);
        x.set(2, 0, 819);
        x.walk(2, 1, 11);
        due("12: dancers not from 819", x.told(2, 7), 0);
        x.set(2, 0, 820);
        x.walk(2, 1, 11);
        due("12: dancers from 820", x.told(2, 7), 1);
        due("12: aside stays", x.told(2, 6), 81);
    }

    private static void risingUp() {
        RoundAndRound x = by(HALVES);
        due("13: nobody", x.up(1), NO_HEAD);
        x.set(0, 0, 75);
        x.walk(0, 1, 31);
        x.set(0, 0, 999);
        x.walk(0, 1, 31);
        due("13: up", x.up(0), 37);
        due("13: along", x.told(0, 5), 0);
        due("13: aside", x.told(0, 6), 0);
        due("13: down", x.told(0, 7), 0);
        due("13: sense stays", x.told(0, 2), 999);
    }

    private static void ending() {
        RoundAndRound x = by(HALVES);
        due("14: nobody", x.ends(1, 41, 11, 1, 0), NO_HEAD);
        int[][] ill = {{41, 11, 1, 0}, {-41, 11, 1, 0}, {1, 10, 1, 0}, {1, 101, 1, 0}, {1, 6111, 1, 0}, {1, -11, 1, 0}, {1, 11, 61, 0},
            {1, 11, -1, 0}, {1, 11, 1, 4}, {1, 11, 1, -1}};
        for (int[] a : ill) {
            due("14: ill " + java.util.Arrays.toString(a), x.ends(0, a[0], a[1], a[2], a[3]), ILL);
        }
        due("14: sense", x.ends(0, 1, 113, 1, 0), 13);
        due("14: aside", x.ends(0, 1, 113, 2, 1), 12 + 6);
        due("14: along", x.ends(0, 1, 113, 2, 2), 6);
        due("14: falls in none", x.ends(0, 1, 113, 2, 3), -1);
        due("14: to the left", x.ends(0, -1, 13, 1, 1), -25);
        due("14: 60 seconds' wait", x.ends(0, 1, 6099, 60, 2), 540);
        x.set(0, 0, 5000);
        due("14: falls in the first", x.ends(0, 0, 211, 5, 3), 0);
        due("14: sense of one who fell", x.ends(0, 0, 211, 5, 0), 1250);
        due("14: no second, no fall", x.ends(0, 0, 211, 0, 3), -1);
        x.walk(0, 1, 11);
        due("14: truly down, but not in thought", x.ends(0, 0, 311, 1, 1), 312);
        due("14: nothing changes", x.told(0, 2), 5000);
        due("14: still down", x.told(0, 7), 1);
        due("14: used stays", x.told(0, 4), 0);
        RoundAndRound y = by("builds 1;fades 0-(sense<798)*0+(1-eyes)*9;bends 1000*eyes;");
        y.set(0, 0, 799);
        due("14: eyes open", y.ends(0, 0, 511, 2, 1), 798 * 2);
        due("14: from along 0", y.ends(0, 0, 511, 2, 2), 2);
        RoundAndRound z = new RoundAndRound();
        z.head(0, 0);
        z.set(0, 0, 1719);
        due("14: falls in the first of many", z.ends(0, 0, 611, 60, 3), 0);
        due("14: not once it has faded", z.ends(0, 0, 811, 60, 3), -1);
    }

    private static void standing() {
        RoundAndRound x = by("builds 100;fades 0;bends 1;");
        due("15: nobody", x.stands(1, 0), NO_HEAD);
        due("15: speed 0", x.stands(0, 0), ILL);
        due("15: speed 10", x.stands(0, 10), ILL);
        due("15: seven", x.stands(0, 1), 7);
        x.set(0, 0, -1000);
        due("15: the greatest, though the first would fall", x.stands(0, 1), 17);
        x.set(0, 0, 700);
        due("15: none", x.stands(0, 1), 0);
        x.set(0, 0, -3300);
        due("15: 40", x.stands(0, 1), 40);
        x.set(0, 0, -4800);
        due("15: none yet", x.stands(0, 1), 0);
        x.set(0, 0, -4799);
        due("15: just 40", x.stands(0, 1), 40);
        RoundAndRound y = by("builds speed*100;fades 0;bends 1;");
        y.set(0, 0, 799);
        y.walk(0, 0, 11);
        due("15: of speed 2", y.stands(0, 2), 0);
        y.set(0, 0, 0);
        due("15: three of speed 2", y.stands(0, 2), 3);
        due("15: nothing changes", y.told(0, 2), 0);
    }

    private static void undoing() {
        RoundAndRound x = by("builds 100;fades 0;bends 1;");
        due("16: nobody", x.undo(1, 0, 0), NO_HEAD);
        due("16: speed 0", x.undo(0, 0, 0), ILL);
        due("16: speed 10", x.undo(0, 10, 0), ILL);
        due("16: what -1", x.undo(0, 1, -1), ILL);
        due("16: what 2", x.undo(0, 1, 2), ILL);
        x.set(0, 0, 320);
        due("16: three to the left", x.undo(0, 1, 0), 3);
        due("16: leave 20", x.undo(0, 1, 1), 20);
        x.set(0, 0, 380);
        due("16: four to the left", x.undo(0, 1, 0), 4);
        due("16: leave 20, without its sign", x.undo(0, 1, 1), 20);
        x.set(0, 0, -350);
        due("16: the fewest to the right", x.undo(0, 1, 0), 3);
        due("16: leave 50", x.undo(0, 1, 1), 50);
        x.set(0, 0, 49);
        due("16: none", x.undo(0, 1, 0), 0);
        due("16: leaves 49", x.undo(0, 1, 1), 49);
        x.set(0, 0, 9000);
        due("16: forty", x.undo(0, 1, 0), 40);
        due("16: leave 5000", x.undo(0, 1, 1), 5000);
        due("16: nothing changes", x.told(0, 2), 9000);
    }

    private static void beingFine() {
        RoundAndRound x = by("builds 1;fades eyes*50;bends 1;");
        due("17: nobody", x.fine(1, 0), NO_HEAD);
        due("17: much 0", x.fine(0, 0), ILL);
        due("17: much 10000", x.fine(0, 10000), ILL);
        due("17: at once", x.fine(0, 1), 0);
        x.set(0, 0, 100);
        due("17: less than 100", x.fine(0, 100), 1);
        due("17: less than 101", x.fine(0, 101), 0);
        due("17: less than 26", x.fine(0, 26), 2);
        due("17: less than 25", x.fine(0, 25), 3);
        due("17: less than 1", x.fine(0, 1), -1);
        x.set(0, 0, -100);
        due("17: without its sign", x.fine(0, 26), 2);
        x.set(0, 0, -9999);
        due("17: of 9999", x.fine(0, 9999), 1);
        RoundAndRound y = by("builds 1;fades 1;bends 1;");
        y.set(0, 0, 199);
        due("17: 60 seconds", y.fine(0, 140), 60);
        due("17: 61 seconds are too many", y.fine(0, 139), -1);
        due("17: nothing changes", y.told(0, 2), 199);
    }

    private static void racing() {
        RoundAndRound x = by(HALVES);
        due("18: nobody", x.race(1, 41, 11, 2000, 0), NO_HEAD);
        int[][] ill = {{41, 11, 2000, 0}, {-41, 11, 2000, 0}, {1, 10, 2000, 0}, {1, 1, 2000, 0}, {1, 100, 2000, 0}, {1, -11, 2000, 0},
            {1, 11, 999, 0}, {1, 11, 541000, 0}, {1, 11, -1000, 0}, {1, 11, 2000, -1}, {1, 11, 2000, 2}};
        for (int[] a : ill) {
            due("18: ill " + java.util.Arrays.toString(a), x.race(0, a[0], a[1], a[2], a[3]), ILL);
            due("19: ill " + java.util.Arrays.toString(a), x.wins(a[0], a[1], a[2], a[3]), ILL);
        }
        int[] wide = {37, 36, 18, 9, 8, 5, 3, 1, 0};
        int[] wait = {0, 1, 1, 2, 3, 3, 4, 5, 6};
        for (int i = 0; i < wide.length; i++) {
            due("18: wide " + wide[i], x.race(0, 1, 11, 2000 + wide[i], 0), wait[i]);
            due("18: together, wide " + wide[i], x.race(0, -1, 12, 3000 + wide[i], 1), wait[i] + 2);
        }
        x.set(0, 0, 900);
        due("18: one not falling", x.race(0, 0, 11, 2999, 0), 1);
        x.set(0, 0, 0);
        due("18: 60 seconds", x.race(0, 0, 19, 540000, 1), 60);
        due("18: at once", x.race(0, 0, 19, 540000, 0), 0);
        due("18: 68 seconds", x.race(0, 0, 18, 540000, 0), -1);
        due("18: 61 seconds", x.race(0, 0, 11, 61000, 1), -1);
        RoundAndRound y = by("builds 1;fades 1;bends 100;");
        y.set(0, 0, 799);
        due("18: none", y.race(0, 0, 11, 10000, 0), -1);
        due("18: none together", y.race(0, 0, 11, 10000, 1), -1);
        RoundAndRound z = by("builds 1;fades 1;bends 100;");
        z.set(0, 0, 199);
        due("18: wait 50", z.race(0, 0, 11, 1014, 0), 50);
        due("18: wait 50 and a second", z.race(0, 0, 11, 1014, 1), 51);
        due("18: wait 60", z.race(0, 0, 11, 1013, 0), 60);
        due("18: wait 60 and a second", z.race(0, 0, 11, 1013, 1), 61);
        due("18: wait 61 is too long", z.race(0, 0, 11, 1012, 0), -1);
        z.set(0, 0, 198);
        due("18: together 60", z.race(0, 0, 11, 1013, 1), 60);
        due("18: wait 59", z.race(0, 0, 11, 1013, 0), 59);
        racingLong();
    }

    /** 60 bounds the seconds on one's feet and WAIT each by itself, not both together. */
    private static void racingLong() {
        RoundAndRound x = by("builds 1;fades 1;bends 0;");
        int[] sense = {799, 800, 810, 1421, 1422};
        int[] wait = {0, 1, 2, 60, -1};
        for (int i = 0; i < sense.length; i++) {
            int together = wait[i] < 0 ? -1 : wait[i] + 60;
            x.set(0, 0, sense[i]);
            due("18: ahead of 60 seconds, from " + sense[i], x.race(0, 0, 19, 540000, 0), wait[i]);
            due("18: with 60 seconds, from " + sense[i], x.race(0, 0, 19, 540000, 1), together);
            due("18: ahead of 61 seconds, from " + sense[i], x.race(0, 0, 11, 61000, 0), -1);
            due("19: with 60 seconds, from " + sense[i], x.wins(0, 19, 540000, 0), wait[i] < 0 ? -1 : 0);
            due("19: that with 60 seconds, from " + sense[i], x.wins(0, 19, 540000, 1), together);
            due("19: with 61 seconds, from " + sense[i], x.wins(0, 11, 61000, 1), -1);
        }
        x.head(0, 0);
        x.set(1, 0, 1421);
        due("19: 120 together is less than none", x.wins(0, 19, 540000, 0), 1);
        due("19: 120 together", x.wins(0, 19, 540000, 1), 120);
    }

    private static void winning() {
        RoundAndRound none = new RoundAndRound();
        due("19: nobody", none.wins(0, 11, 2000, 0), -1);
        due("19: nobody, ill", none.wins(0, 11, 2000, 2), ILL);
        RoundAndRound x = by(HALVES);
        x.head(1, 0);
        x.head(3, 0);
        x.head(4, 0);
        due("19: the first of like ones", x.wins(1, 11, 2009, 0), 1);
        due("19: that", x.wins(1, 11, 2009, 1), 3);
        due("19: with speed 9", x.wins(1, 91, 2009, 0), 2);
        due("19: that with speed 9", x.wins(1, 91, 2009, 1), 2);
        due("19: none of them", x.wins(1, 91, 61009, 0), -1);
        due("19: none of them, that", x.wins(1, 91, 61009, 1), -1);
        x.set(1, 0, 9999);
        x.set(2, 0, 9999);
        x.set(3, 0, 799);
        due("19: but -1", x.wins(1, 11, 2009, 0), 0);
        due("19: but -1, that", x.wins(1, 11, 2009, 1), 4);
    }

    private static void pacing() {
        RoundAndRound x = by(HALVES);
        due("20: nobody", x.pace(1, 41, 1, 1, 0), NO_HEAD);
        int[][] ill = {{41, 1, 1, 0}, {-41, 1, 1, 0}, {1, 0, 1, 0}, {1, 10, 1, 0}, {1, 1, 0, 0}, {1, 1, 61, 0}, {1, 1, 1, -1}, {1, 1, 1, 2}};
        for (int[] a : ill) {
            due("20: ill " + java.util.Arrays.toString(a), x.pace(0, a[0], a[1], a[2], a[3]), ILL);
        }
        due("20: the quickest", x.pace(0, 1, 1, 4, 0), 9);
        due("20: that", x.pace(0, 1, 1, 4, 1), 25);
        due("20: to the left", x.pace(0, -1, 1, 4, 1), 25);
        due("20: far 10 is two seconds", x.pace(0, 1, 1, 10, 1), 37);
        x.set(0, 0, 1600);
        due("20: falls", x.pace(0, 0, 1, 4, 0), -1);
        due("20: falls, that", x.pace(0, 0, 1, 4, 1), -1);
        RoundAndRound y = by("builds 100;fades 50;bends 100*speed;");
        due("20: bends of PACE", y.pace(0, 1, 1, 4, 0), 1);
        due("20: that of PACE", y.pace(0, 1, 1, 4, 1), 8);
        due("20: nothing changes", y.told(0, 2), 0);
        RoundAndRound z = by("builds 0;fades 0;bends 400-speed*100+(speed=8)*500;");
        z.set(0, 0, 100);
        due("20: the quickest of like ones", z.pace(0, 5, 1, 60, 0), 9);
        due("20: none aside", z.pace(0, 5, 1, 60, 1), 0);
    }

    private static void rosing() {
        RoundAndRound x = by(HALVES);
        due("21: nobody", x.roses(1, 10, 1, 0, 0), NO_HEAD);
        int[][] ill = {{10, 1, 0, 0}, {9, 1, 0, 0}, {100, 1, 0, 0}, {11, -1, 0, 0}, {11, 61, 0, 0}, {11, 1, 100000, 0}, {11, 1, -100000, 0},
            {11, 1, 0, -1}, {11, 1, 0, 2}};
        for (int[] a : ill) {
            due("21: ill " + java.util.Arrays.toString(a), x.roses(0, a[0], a[1], a[2], a[3]), ILL);
        }
        int[] at = {44, 40, 0, -25, 31, -31, 99999, -99999, 12, 13};
        int[] turns = {3, 2, 0, -1, 1, -1, 7, -7, 0, 1};
        int[] off = {0, 3, 0, 0, 6, 6, 99999 - 50, 99999 - 50, 12, 12};
        for (int i = 0; i < at.length; i++) {
            due("21: at " + at[i], x.roses(0, 11, 1, at[i], 0), turns[i]);
            due("21: off " + at[i], x.roses(0, 11, 1, at[i], 1), off[i]);
        }
        due("21: no seconds", x.roses(0, 11, 0, 70, 0), 0);
        due("21: no seconds, that", x.roses(0, 11, 0, 70, 1), 70);
        x.set(0, 0, 9999);
        due("21: also one who falls", x.roses(0, 11, 1, 0, 0), 0);
        x.set(0, 0, 25);
        due("21: the first of 0, 1, -1", x.roses(0, 11, 1, 1000, 0) > 0 ? 1 : 0, 1);
        due("21: nothing changes", x.told(0, 2), 25);
    }

    private static void judging() {
        RoundAndRound x = by(HALVES);
        due("22: sheet 4", x.judge(4, 9, 99, 0), -2);
        due("22: sheet -1", x.judge(-1, 9, 99, 0), -2);
        due("22: nothing there", x.judge(0, 9, 99, 0), -11);
        x.sheet(0, 1, 3);
        due("22: nobody", x.judge(0, 1, 99, 0), -5);
        due("22: n 41", x.judge(0, 0, 41, 11), -7);
        due("22: n -41", x.judge(0, 0, -41, 11), -7);
        due("22: speedPace 10", x.judge(0, 0, 1, 10), -7);
        due("22: speedPace 100", x.judge(0, 0, 1, 100), -7);
        due("22: the first", x.judge(0, 0, 1, 11), 0);
        x.cell(0, 0, 25);
        due("22: the second", x.judge(0, 0, 1, 11), 1);
        x.cell(0, 1, 37);
        due("22: the third", x.judge(0, 0, 1, 11), 2);
        x.cell(0, 2, 43);
        due("22: none", x.judge(0, 0, 1, 11), -1);
        due("22: to the left", x.judge(0, 0, -1, 11), 0);
        x.sheet(1, 2, 0);
        due("22: none in no cells", x.judge(1, 0, 1, 11), -1);
        x.sheet(2, 0, 1);
        x.cell(2, 0, 25 + 256);
        due("22: bytes", x.judge(2, 0, 1, 11), -1);
        x.cell(2, 0, 256 - 25);
        due("22: bytes below 0", x.judge(2, 0, -1, 11), -1);
        x.sheet(3, 1, 1);
        x.cell(3, 0, 65536 - 25);
        due("22: shorts below 0", x.judge(3, 0, -1, 11), -1);
        x.set(0, 0, 9999);
        x.sheet(3, 2, 40);
        due("22: one who falls stays", x.judge(3, 0, 1, 11), -1);
    }

    private static void turningTold() {
        RoundAndRound x = by(HALVES);
        due("23: sheet", x.turned(4, 9, 0, 9), -2);
        due("23: nothing there", x.turned(0, 9, 0, 9), -11);
        x.sheet(0, 2, 1);
        due("23: nobody", x.turned(0, 1, 0, 9), -5);
        due("23: speedPace", x.turned(0, 0, 90, 0), -7);
        due("23: what 2", x.turned(0, 0, 11, 2), -7);
        due("23: what -1", x.turned(0, 0, 11, -1), -7);
        due("23: just 0", x.turned(0, 0, 11, 0), 1);
        due("23: first 0", x.turned(0, 0, 11, 1), 0);
        x.cell(0, 0, -37);
        due("23: one way", x.turned(0, 0, 11, 0), 1);
        due("23: -2", x.turned(0, 0, 11, 1), -2);
        x.cell(0, 0, 1);
        due("23: no way", x.turned(0, 0, 11, 0), 0);
        due("23: none", x.turned(0, 0, 11, 1), -100);
        x.sheet(0, 2, 0);
        due("23: all ways", x.turned(0, 0, 11, 0), 81);
        due("23: first of all", x.turned(0, 0, 11, 1), 0);
        x.sheet(0, 0, 40);
        x.set(0, 0, 9999);
        due("23: those who fall, and none who doesn't", x.turned(0, 0, 11, 1), 0);
        RoundAndRound y = by("builds 100;fades 100;bends 500;");
        y.sheet(0, 0, 40);
        due("23: none is left", y.turned(0, 0, 99, 0), 81);
        RoundAndRound z = by("builds 100;fades 0;bends 10;");
        z.sheet(0, 2, 1);
        z.set(0, 0, 10);
        due("23: 0, and from 8 on to the right, and from 9 on to the left", z.turned(0, 0, 11, 0), 1 + 33 + 32 + 1);
        due("23: the first so", z.turned(0, 0, 11, 1), 0);
        z.set(0, 0, 700);
        due("23: the first so is 1", z.turned(0, 0, 11, 1), 1);
        due("23: of 1 .. 40, -7, and -15 .. -40", z.turned(0, 0, 11, 0), 40 + 1 + 26);
    }

    private static void kindsTold() {
        RoundAndRound x = by(HALVES);
        due("24: sheet", x.kinds(4, 9, 99, 0, 9), -2);
        due("24: nothing there", x.kinds(0, 9, 99, 0, 9), -11);
        x.film(0, 0, 1, 11, 1);
        due("24: nobody", x.kinds(0, 1, 99, 0, 9), -5);
        due("24: n", x.kinds(0, 0, 41, 11, 0), -7);
        due("24: speedPace", x.kinds(0, 0, 1, 10, 0), -7);
        due("24: sort -1", x.kinds(0, 0, 1, 11, -1), -7);
        due("24: sort 3", x.kinds(0, 0, 1, 11, 3), -7);
        due("24: kinds 0, 5", x.kinds(0, 0, 1, 11, 0), 33);
        due("24: any more", x.kinds(0, 0, 1, 11, 1), 1023);
        due("24: any cake", x.kinds(0, 0, 1, 11, 2), 1023);
        x.film(0, 0, 1, 11, 2);
        due("24: kind 0", x.kinds(0, 0, 1, 11, 0), 1);
        x.head(2, 2);
        x.film(0, 1, 1, 11, 1);
        due("24: kind 2", x.kinds(0, 1, 1, 11, 0), 4);
        due("24: more 2", x.kinds(0, 1, 1, 11, 1), 4);
        x.cell(0, 0, 12);
        due("24: kinds 1, 3", x.kinds(0, 1, 1, 11, 0), 10);
        x.cell(0, 0, 37);
        due("24: kind 4", x.kinds(0, 1, 1, 11, 0), 16);
        due("24: nothing changes", x.told(1, 0), 2);
        RoundAndRound y = by("builds 100+cake;fades 50;bends 500;");
        y.film(0, 0, 1, 11, 1);
        due("24: cake 0, 1, 2", y.kinds(0, 0, 1, 11, 2), 7);
        due("24: nothing changes of cake", y.told(0, 3), 0);
    }

    private static void lawsAndWhose() {
        RoundAndRound x = by(HALVES);
        due("25: sheet", x.laws(-1, 9, 99, 0), -2);
        due("25: nothing there", x.laws(0, 9, 99, 0), -11);
        due("26: sheet", x.whose(-1, 99, 0), -2);
        due("26: nothing there", x.whose(0, 99, 0), -11);
        x.film(0, 0, 1, 11, 1);
        due("25: nobody", x.laws(0, 1, 99, 0), -5);
        due("25: n", x.laws(0, 0, 41, 11), -7);
        due("25: speedPace", x.laws(0, 0, 1, 110), -7);
        due("26: n", x.whose(0, -41, 11), -7);
        due("26: speedPace", x.whose(0, 1, 10), -7);
        due("25: text 1", x.laws(0, 0, 1, 11), 2);
        due("25: the law stays", x.count(2), 1);
        x.sheet(1, 2, 4);
        due("25: both", x.laws(1, 0, 0, 11), 3);
        read(x, "builds 30;fades 10;bends 100;");
        read(x, HALVES);
        due("25: texts 1, 3", x.laws(0, 0, 1, 11), 10);
        x.force(0);
        x.film(0, 0, 1, 11, 1);
        due("25: texts 0, 2", x.laws(0, 0, 1, 11), 5);
        due("25: text 2, not text 0, with speed 2", x.laws(0, 0, 1, 21), 4);
        x.force(1);
        x.film(0, 0, 1, 11, 1);
        x.head(1, 0);
        x.head(5, 2);
        x.head(0, 9);
        due("26: heads 0, 2, 3", x.whose(0, 1, 11), 13);
        due("26: none", x.whose(0, -1, 11), 0);
        RoundAndRound none = new RoundAndRound();
        none.sheet(0, 0, 0);
        due("26: of nobody", none.whose(0, 0, 11), 0);
    }

    private static void filming() {
        RoundAndRound x = by(HALVES);
        due("27: sheet 4", x.film(4, 9, 99, 0, 99), -2);
        due("27: sheet -1", x.film(-1, 9, 99, 0, 99), -2);
        due("27: nobody", x.film(0, 1, 99, 0, 99), -5);
        due("27: n", x.film(0, 0, 41, 11, 1), -7);
        due("27: speedPace", x.film(0, 0, 1, 10, 1), -7);
        due("27: seconds -1", x.film(0, 0, 1, 11, -1), -7);
        due("27: seconds 41", x.film(0, 0, 1, 11, 41), -7);
        due("27: still missing", x.cell(0, 0, 0), -11);
        x.sheet(0, 0, 2);
        due("27: three", x.film(0, 0, 1, 11, 3), 3);
        due("27: judged", x.judge(0, 0, 1, 11), -1);
        due("27: to the left", x.judge(0, 0, -1, 11), 0);
        x.sheet(1, 2, 3);
        due("27: ints", x.copy(1, 0, 0, 0, 1), 1);
        due("27: the first is 0 now", x.judge(0, 0, 1, 11), 0);
        x.cell(0, 0, 25);
        due("27: it was 25", x.judge(0, 0, 1, 11), -1);
        due("27: three long", x.cell(0, 3, 1), -12);
        due("27: forty", x.film(0, 0, -40, 99, 40), 40);
        due("27: judged forty", x.judge(0, 0, -40, 99), -1);
        due("27: none", x.film(0, 0, 1, 11, 0), 0);
        due("27: no cell", x.cell(0, 0, 1), -12);
        due("27: one's own sense stays", x.told(0, 2), 0);
        due("27: one's own way too", x.told(0, 5), 0);
    }

    private static void drawing() {
        RoundAndRound x = by("builds 0;fades 0;bends eyes*100;");
        due("28: nobody", x.drawn(-1, 1, 61, 0, 9), NO_HEAD);
        int[][] ill = {{-1, 1, 11, 0}, {100000, 1, 11, 0}, {0, -1, 11, 0}, {0, 61, 11, 0}, {0, 1, 0, 0}, {0, 1, 10, 0}, {0, 1, 1011, 0},
            {0, 1, -1, 0}, {0, 1, 11, -1}, {0, 1, 11, 3}};
        for (int[] a : ill) {
            due("28: ill " + java.util.Arrays.toString(a), x.drawn(a[0], 0, a[1], a[2], a[3]), ILL);
        }
        x.set(0, 0, 100);
        // of seed 0 the lots end in 71, 94, 86, 37, 41
        due("28: odds 72", x.drawn(0, 0, 5, 723, 0), 20);
        due("28: odds 71", x.drawn(0, 0, 5, 713, 0), 30);
        due("28: odds 0", x.drawn(0, 0, 5, 3, 0), 50);
        due("28: odds 100", x.drawn(0, 0, 5, 1003, 0), 0);
        due("28: odds 37", x.drawn(0, 0, 5, 373, 0), 50);
        due("28: odds 38", x.drawn(0, 0, 5, 383, 0), 40);
        due("28: along", x.drawn(0, 0, 5, 723, 1), 15);
        due("28: not down", x.drawn(0, 0, 5, 723, 2), 0);
        due("28: no seconds", x.drawn(99999, 0, 0, 723, 0), 0);
        due("28: seed 1 ends in 42", x.drawn(1, 0, 1, 433, 0), 0);
        due("28: seed 1, odds 42", x.drawn(1, 0, 1, 423, 0), 10);
        due("28: seed 99999 ends in 0", x.drawn(99999, 0, 1, (int) (4827100000L % 2147483647L % 100) * 10 + 1, 0), 10);
        x.set(0, 0, 800);
        due("28: down", x.drawn(0, 0, 5, 723, 2), 1);
        due("28: down, aside", x.drawn(0, 0, 5, 723, 0), 0);
        due("28: not truly", x.told(0, 7), 0);
    }

    private static void reckoningOdds() {
        RoundAndRound x = by("builds 0;fades 0;bends eyes*100;");
        x.set(0, 0, 100);
        // the first lots of seeds 0, 1, 2, 3 end in 71, 42, 13, 84
        due("29: two of four, above", x.odds(0, 104, 0, 501, 5, 0), 1);
        due("29: two of four, below", x.odds(0, 104, 0, 501, 5, 1), 2);
        due("29: two of three, above", x.odds(0, 103, 0, 501, 5, 0), 2);
        due("29: two of three, below", x.odds(0, 103, 0, 501, 5, 1), 3);
        due("29: all, above", x.odds(0, 104, 0, 501, 10, 0), 1);
        due("29: all, below", x.odds(0, 104, 0, 501, 10, 1), 1);
        due("29: none, above", x.odds(3, 101, 0, 501, 9, 0), 0);
        due("29: none, below", x.odds(3, 101, 0, 501, 9, 1), 1);
        due("29: none of 40, below", x.odds(0, 140, 0, 1, 9, 1), 1);
        x.set(0, 0, -100);
        due("29: without its sign", x.odds(0, 104, 0, 501, 5, 1), 2);
        long[] ill = {x.odds(-1, 104, 0, 501, 5, 0), x.odds(100000, 104, 0, 501, 5, 0), x.odds(0, 100, 0, 501, 5, 0), x.odds(0, 141, 0, 501, 5, 0),
            x.odds(0, 6101, 0, 501, 5, 0), x.odds(0, -1, 0, 501, 5, 0), x.odds(0, 104, 1, 501, 5, 0), x.odds(0, 104, -1, 501, 5, 0),
            x.odds(0, 104, 0, 500, 5, 0), x.odds(0, 104, 0, 1011, 5, 0), x.odds(0, 104, 0, 501, -1, 0), x.odds(0, 104, 0, 501, 100000, 0),
            x.odds(0, 104, 0, 501, 5, -1), x.odds(0, 104, 0, 501, 5, 2)};
        for (int i = 0; i < ill.length; i++) {
            due("29: ill " + i, ill[i], RoundAndRound.NO);
        }
        x.set(0, 0, 100);
        due("29: three seconds open for seed 1", x.odds(1, 301, 0, 1, 29, 0), 0);
        due("29: and no more", x.odds(1, 301, 0, 1, 30, 0), 1);
        due("29: 60 seconds open", x.odds(1, 6001, 0, 1, 599, 0), 0);
        due("29: 600 aside", x.odds(1, 6001, 0, 1, 600, 0), 1);
        due("29: the last seeds", x.odds(99999, 6040, 0, 1001, 0, 0), 1);
    }

    private static void imaging() {
        RoundAndRound x = by(HALVES);
        due("31: none", x.back(), RoundAndRound.STATE);
        x.set(0, 0, 75);
        x.set(0, 1, 3);
        x.turn(0, 0, 1);
        x.walk(0, 1, 31);
        due("30: one head", x.image(), 1);
        x.force(0);
        x.head(3, 3);
        x.set(1, 0, 5);
        x.set(1, 1, 5);
        x.set(1, 2, 5);
        x.walk(1, 1, 11);
        x.set(1, 0, 5000);
        x.walk(1, 1, 11);
        x.up(0);
        x.set(0, 0, 5000);
        x.set(0, 1, 9);
        x.walk(0, 1, 31);
        x.turn(0, 3, 3);
        x.sheet(0, 2, 7);
        x.feed(1, 'a', 0, 0, 0, 0);
        due("31: back", x.back(), 1);
        int[] was = {0, 2, 38, 3, 1, 3, 37, 0, 800};
        for (int what = 0; what < 9; what++) {
            due("31: told(0, " + what + ")", x.told(0, what), was[what]);
        }
        due("31: heads that came since", x.told(1, 0), NO_HEAD);
        due("31: the law", x.count(2), 1);
        due("31: the tape stays", x.count(3), 1);
        due("31: sheets stay", x.cell(0, 6, 1), 1);
        due("31: texts stay", x.count(1), 2);
        due("31: another head's place", x.head(5, 5), 1);
        for (int what = 2; what < 8; what++) {
            due("7: as one comes, told(1, " + what + ")", x.told(1, what), 0);
        }
        x.set(0, 0, 1);
        due("31: back once more", x.back(), 1);
        due("31: sense once more", x.told(0, 2), 38);
        x.set(0, 0, 799);
        x.walk(0, 1, 11);
        x.set(0, 0, 900);
        x.walk(0, 1, 11);
        x.head(4, 4);
        due("30: two heads", x.image(), 2);
        x.up(0);
        due("31: two", x.back(), 2);
        due("31: down", x.told(0, 7), 1);
        due("31: kind", x.told(1, 0), 4);
        RoundAndRound y = new RoundAndRound();
        due("30: nobody", y.image(), 0);
        due("31: back to nobody", y.back(), 0);
    }

    private static void sheeting() {
        RoundAndRound x = by(HALVES);
        due("32: sheet -1", x.sheet(-1, 0, 1), -2);
        due("32: sheet 4", x.sheet(4, 0, 1), -2);
        due("32: sort -2", x.sheet(0, -2, 1), -2);
        due("32: sort 3", x.sheet(0, 3, 1), -2);
        due("32: n 41", x.sheet(0, 0, 41), -2);
        due("32: n -1", x.sheet(0, 0, -1), -14);
        due("32: sheet ahead of n", x.sheet(4, 0, -1), -2);
        due("32: missing, n 99", x.sheet(0, -1, 99), 1);
        due("32: still missing", x.cell(0, 0, 1), -11);
        due("32: n 40", x.sheet(3, 2, 40), 1);
        due("33: the last", x.cell(3, 39, 1), 1);
        due("33: behind it", x.cell(3, 40, 1), -12);
        due("33: ahead of it", x.cell(3, -1, 1), -12);
        due("33: sheet 4", x.cell(4, 0, 1), -2);
        due("33: sheet -1", x.cell(-1, 0, 1), -2);
        due("32: anew", x.sheet(3, 2, 1), 1);
        due("32: all 0", x.judge(3, 0, 0, 11), -1);
        due("33: not 0", x.cell(3, 0, 5), 1);
        due("33: told otherwise", x.judge(3, 0, 0, 11), 0);
        due("32: 0 again", x.sheet(3, 2, 1), 1);
        due("32: all 0 again", x.judge(3, 0, 0, 11), -1);
        due("32: n 0", x.sheet(3, 1, 0), 1);
        due("33: no place", x.cell(3, 0, 0), -12);
        due("32: missing again", x.sheet(3, -1, 0), 1);
        due("33: nothing there", x.cell(3, 0, 0), -11);
        x.sheet(0, 2, 1);
        x.cell(0, 0, 65536);
        due("33: ints keep all", x.judge(0, 0, 0, 11), 0);
        x.sheet(0, 1, 1);
        x.cell(0, 0, 65536);
        due("33: shorts keep 16 bits", x.judge(0, 0, 0, 11), -1);
        x.cell(0, 0, 256);
        due("33: shorts keep 256", x.judge(0, 0, 0, 11), 0);
        x.sheet(0, 0, 1);
        x.cell(0, 0, 256);
        due("33: bytes keep 8 bits", x.judge(0, 0, 0, 11), -1);
    }

    private static void copying() {
        RoundAndRound x = by(HALVES);
        due("34: sheet 4", x.copy(4, 0, 0, 0, 0), -2);
        due("34: other sheet 4", x.copy(0, 0, 4, 0, 0), -2);
        due("34: nothing there", x.copy(0, 0, 0, 0, 0), -11);
        x.sheet(0, 2, 5);
        due("34: nothing at the other", x.copy(0, 0, 1, 0, 0), -11);
        due("34: nothing at the first", x.copy(1, 0, 0, 0, 0), -11);
        x.sheet(1, 1, 5);
        due("34: unlike, ahead of places", x.copy(0, 9, 1, 9, 9), -13);
        x.sheet(1, 2, 3);
        int[][] outside = {{-1, 0, 1}, {0, -1, 1}, {0, 0, -1}, {0, 0, 4}, {5, 0, 1}, {0, 3, 1}, {6, 0, 0}, {0, 4, 0}, {3, 0, 3},
            {Integer.MAX_VALUE, 0, 1}, {1, 0, Integer.MAX_VALUE}, {Integer.MIN_VALUE, 0, Integer.MIN_VALUE}};
        for (int[] a : outside) {
            due("34: outside " + java.util.Arrays.toString(a), x.copy(0, a[0], 1, a[1], a[2]), -12);
        }
        due("34: none at the ends", x.copy(0, 5, 1, 3, 0), 0);
        x.film(2, 0, 1, 11, 4);
        due("34: all", x.copy(2, 0, 1, 0, 3), 3);
        due("34: judged", x.judge(1, 0, 1, 11), -1);
        x.sheet(3, 2, 4);
        due("34: from one on", x.copy(2, 1, 3, 0, 3), 3);
        due("34: otherwise", x.judge(3, 0, 1, 11), 0);
        due("34: one place on in itself", x.copy(3, 0, 3, 1, 3), 3);
        due("34: the first again", x.copy(2, 0, 3, 0, 1), 1);
        due("34: as they were", x.judge(3, 0, 1, 11), -1);
        due("34: one place back in itself", x.copy(3, 1, 3, 0, 3), 3);
        x.copy(3, 0, 3, 1, 3);
        x.cell(3, 0, 25);
        due("34: as they were, too", x.judge(3, 0, 1, 11), -1);
    }

    private static void headingBy() {
        RoundAndRound x = new RoundAndRound();
        due("35: sheet 4", x.headsBy(4, 2, 0, 1), -2);
        due("35: sort -1", x.headsBy(0, -1, 0, 1), -2);
        due("35: sort 3", x.headsBy(0, 3, 0, 1), -2);
        due("35: n -1", x.headsBy(0, 2, 0, -1), -2);
        due("35: n 6", x.headsBy(0, 2, 0, 6), -2);
        due("35: nothing there", x.headsBy(0, 2, 0, 1), -11);
        x.sheet(0, 0, 8);
        due("35: another sort", x.headsBy(0, 2, 0, 1), -13);
        int[] cells = {9, 5, 1, 6, 0, 3, 9, 2};
        for (int i = 0; i < cells.length; i++) {
            x.cell(0, i, cells[i]);
        }
        due("35: none", x.headsBy(0, 0, 0, 0), 0);
        due("35: two come, one is left out", x.headsBy(0, 0, 1, 3), 2);
        due("35: kind", x.told(0, 0), 5);
        due("35: more", x.told(0, 1), 1);
        due("35: kind of 1", x.told(1, 0), 3);
        due("35: more of 1", x.told(1, 1), 9);
        due("35: half a pair is outside", x.headsBy(0, 0, 7, 1), -12);
        due("35: what stood ahead came", x.headsBy(0, 0, 5, 2), -12);
        due("35: three", x.count(0), 3);
        due("35: place -1", x.headsBy(0, 0, -1, 2), -12);
        due("35: place far off", x.headsBy(0, 0, Integer.MAX_VALUE, 5), -12);
        due("35: place far below", x.headsBy(0, 0, Integer.MIN_VALUE, 5), -12);
        x.head(0, 0);
        due("35: one comes, the others have no room", x.headsBy(0, 0, 4, 2) + x.headsBy(0, 0, 5, 1), 1);
        due("35: outside, though full", x.headsBy(0, 0, 5, 2), -12);
        due("35: five", x.count(0), 5);
    }

    private static void taking() {
        RoundAndRound x = new RoundAndRound();
        due("36: kind -1", x.taken(-1, -1), -2);
        due("36: kind 7", x.taken(-1, 7), -2);
        due("36: place -1", x.taken(-1, 0), -12);
        due("36: place 10", x.taken(10, 0), -12);
        due("36: nothing at 0", x.taken(0, 6), -11);
        due("36: nothing at 5", x.taken(5, 0), -11);
        int[][] are = {{0}, {0, 1}, {0, 2}, {0, 1, 3}, {0, 2, 4}, {0, 5}};
        for (int kind = 0; kind < 6; kind++) {
            RoundAndRound y = new RoundAndRound();
            y.head(0, 0);
            y.head(kind, 0);
            for (int wanted = 0; wanted < 7; wanted++) {
                boolean fits = false;
                for (int k : are[kind]) {
                    fits |= k == wanted;
                }
                due("36: kind " + kind + " for " + wanted, y.taken(1, wanted), fits ? 1 : -13);
            }
        }
        x.head(0, 0);
        x.head(0, 0);
        x.set(1, 0, 800);
        x.walk(1, 1, 11);
        due("36: not down", x.taken(5, 6), 0);
        due("36: down", x.taken(6, 6), 1);
        due("36: down, as a head", x.taken(6, 0), -13);
        due("36: nothing at 7", x.taken(7, 6), -11);
        due("36: nothing at 4", x.taken(4, 0), -11);
    }
}
