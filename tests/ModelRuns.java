import java.util.ArrayList;
import java.util.Arrays;
import java.util.List;
import java.util.Random;
import java.util.function.ToIntFunction;

/** Runs of chance calls, each on the class and on a model that follows the document's words from the start each time. */
public final class ModelRuns {
    private static final String[] CALLS = {
        "count 1", "feed 6", "text 0", "force 1", "asks 3", "head 2", "set 3", "told 2", "turn 3", "rest 3",
        "walk 3", "up 1", "ends 5", "stands 2", "undo 3", "fine 2", "race 5", "wins 4", "pace 5", "roses 5",
        "judge 4", "turned 4", "kinds 5", "laws 4", "whose 3", "film 5", "drawn 5", "odds 6", "image 0", "back 0",
        "sheet 3", "cell 3", "copy 5", "headsBy 4", "taken 2"};
    private static int wrong = 0;

    public static void main(String[] args) {
        int[] seen = new int[CALLS.length];
        int[] refused = new int[CALLS.length];
        for (int seed = 1; seed <= 400 && wrong < 20; seed++) {
            run(seed, seen, refused);
        }
        for (int i = 0; i < CALLS.length; i++) {
            if (seen[i] - refused[i] < 50) {
                wrong++;
                System.out.println(CALLS[i] + " was answered just " + (seen[i] - refused[i]) + " times");
            }
        }
        System.out.println(wrong == 0 ? "all answers are the model's" : wrong + " answers are not the model's");
        if (wrong != 0) {
            System.exit(1);
        }
    }

    private static void run(int seed, int[] seen, int[] refused) {
        Random random = new Random(seed);
        RoundAndRound x = new RoundAndRound();
        Model m = new Model();
        List<String> story = new ArrayList<>();
        List<int[]> waiting = new ArrayList<>();
        boolean read = false;
        for (int k = 0; k < 512; k++) {
            int which = k < 3 ? 5 : random.nextInt(CALLS.length);
            String name = CALLS[which].substring(0, CALLS[which].indexOf(' '));
            int[] a = Args.of(random, name);
            if (!waiting.isEmpty()) {
                name = "feed";
                which = 1;
                a = waiting.remove(0);
                read = waiting.isEmpty();
            } else if (read) {
                name = "text";
                which = 2;
                a = new int[] {};
                read = false;
            } else if (name.equals("text") && random.nextInt(4) > 0) {
                waiting = fed(Texts.of(random));
            } else if (name.equals("feed") && random.nextInt(8) > 0) {
                continue;
            }
            long got = call(x, name, a);
            long want = m.call(name, a);
            seen[which]++;
            refused[which] += want == -2 || want <= -100005 || want == -12 || want == -11 ? 1 : 0;
            story.add(name + Arrays.toString(a) + " = " + got);
            if (got != want) {
                wrong++;
                System.out.println("seed " + seed + ", call " + k + ": " + name + Arrays.toString(a) + " answered " + got + ", the model " + want);
                System.out.println("  behind " + story.subList(Math.max(0, story.size() - 12), story.size()));
                return;
            }
            for (int h = 0; h < 5; h++) {
                for (int what = 0; what < 9; what++) {
                    if (x.told(h, what) != m.call("told", new int[] {h, what})) {
                        wrong++;
                        System.out.println("seed " + seed + ": told(" + h + ", " + what + ") differs behind " + name + Arrays.toString(a));
                        return;
                    }
                }
            }
        }
    }

    private static List<int[]> fed(String text) {
        List<int[]> rows = new ArrayList<>();
        for (int i = 0; i < text.length(); i += 5) {
            int[] row = new int[6];
            row[0] = Math.min(5, text.length() - i);
            for (int j = 0; j < row[0]; j++) {
                row[1 + j] = text.charAt(i + j);
            }
            rows.add(row);
        }
        return rows;
    }

    private static long call(RoundAndRound x, String name, int[] a) {
        switch (name) {
            case "count": return x.count(a[0]);
            case "feed": return x.feed(a[0], a[1], a[2], a[3], a[4], a[5]);
            case "text": return x.text();
            case "force": return x.force(a[0]);
            case "asks": return x.asks(a[0], a[1], a[2]);
            case "head": return x.head(a[0], a[1]);
            case "set": return x.set(a[0], a[1], a[2]);
            case "told": return x.told(a[0], a[1]);
            case "turn": return x.turn(a[0], a[1], a[2]);
            case "rest": return x.rest(a[0], a[1], a[2]);
            case "walk": return x.walk(a[0], a[1], a[2]);
            case "up": return x.up(a[0]);
            case "ends": return x.ends(a[0], a[1], a[2], a[3], a[4]);
            case "stands": return x.stands(a[0], a[1]);
            case "undo": return x.undo(a[0], a[1], a[2]);
            case "fine": return x.fine(a[0], a[1]);
            case "race": return x.race(a[0], a[1], a[2], a[3], a[4]);
            case "wins": return x.wins(a[0], a[1], a[2], a[3]);
            case "pace": return x.pace(a[0], a[1], a[2], a[3], a[4]);
            case "roses": return x.roses(a[0], a[1], a[2], a[3], a[4]);
            case "judge": return x.judge(a[0], a[1], a[2], a[3]);
            case "turned": return x.turned(a[0], a[1], a[2], a[3]);
            case "kinds": return x.kinds(a[0], a[1], a[2], a[3], a[4]);
            case "laws": return x.laws(a[0], a[1], a[2], a[3]);
            case "whose": return x.whose(a[0], a[1], a[2]);
            case "film": return x.film(a[0], a[1], a[2], a[3], a[4]);
            case "drawn": return x.drawn(a[0], a[1], a[2], a[3], a[4]);
            case "odds": return x.odds(a[0], a[1], a[2], a[3], a[4], a[5]);
            case "image": return x.image();
            case "back": return x.back();
            case "sheet": return x.sheet(a[0], a[1], a[2]);
            case "cell": return x.cell(a[0], a[1], a[2]);
            case "copy": return x.copy(a[0], a[1], a[2], a[3], a[4]);
            case "headsBy": return x.headsBy(a[0], a[1], a[2], a[3]);
            default: return x.taken(a[0], a[1]);
        }
    }

    /** Numbers that are mostly as told, at times at an edge or outside. */
    private static final class Args {
        private static final int[] ODD = {-1, Integer.MIN_VALUE, Integer.MAX_VALUE, 100, 1000, -100, 41, -41, 61, 10, 6, 5};

        static int[] of(Random r, String name) {
            int[] a = usual(r, name);
            if (a.length > 0 && r.nextInt(12) == 0) {
                a[r.nextInt(a.length)] = ODD[r.nextInt(ODD.length)];
            }
            if (r.nextInt(40) == 0) {
                for (int i = 0; i < a.length; i++) {
                    a[i] = ODD[r.nextInt(ODD.length)];
                }
            }
            return a;
        }

        private static int in(Random r, int low, int high) {
            return r.nextInt(10) == 0 ? (r.nextBoolean() ? low : high) : low + r.nextInt(high - low + 1);
        }

        private static int head(Random r) {
            return r.nextInt(20) == 0 ? r.nextInt(6) : r.nextInt(3);
        }

        private static int speedPace(Random r) {
            return 10 * in(r, 1, 9) + in(r, 1, 9);
        }

        private static int turns(Random r) {
            return r.nextInt(3) == 0 ? in(r, -40, 40) : in(r, -5, 5);
        }

        private static int sheet(Random r) {
            return r.nextInt(3) == 0 ? r.nextInt(4) : 0;
        }

        private static int[] usual(Random r, String name) {
            switch (name) {
                case "count": return new int[] {in(r, 0, 3)};
                case "feed": return new int[] {in(r, 1, 5), in(r, 0, 255), 'a', ' ', in(r, 0, 255), ';'};
                case "text": case "image": case "back": return new int[] {};
                case "force": return new int[] {r.nextInt(3) > 0 ? in(r, 1, 2) : in(r, 0, 5)};
                case "asks": return new int[] {in(r, 0, 2), head(r), 10 * in(r, 0, 9) + in(r, 0, 1)};
                case "head": return new int[] {in(r, 0, 5), in(r, 0, 9)};
                case "set": return set(r);
                case "told": return new int[] {head(r), in(r, 0, 8)};
                case "turn": return new int[] {head(r), turns(r), in(r, 1, 9)};
                case "rest": return new int[] {head(r), in(r, 0, 60), in(r, 0, 1)};
                case "walk": return new int[] {head(r), in(r, 0, 60), 10 * in(r, 1, 9) + in(r, 0, 1)};
                case "up": return new int[] {head(r)};
                case "ends": return new int[] {head(r), turns(r), 100 * in(r, 0, 60) + speedPace(r), in(r, 0, 60), in(r, 0, 3)};
                case "stands": return new int[] {head(r), in(r, 1, 9)};
                case "undo": return new int[] {head(r), in(r, 1, 9), in(r, 0, 1)};
                case "fine": return new int[] {head(r), r.nextBoolean() ? in(r, 1, 60) : in(r, 1, 9999)};
                case "race": return new int[] {head(r), turns(r), speedPace(r), 1000 * far(r) + in(r, 0, 999), in(r, 0, 1)};
                case "wins": return new int[] {turns(r), speedPace(r), 1000 * far(r) + in(r, 0, 999), in(r, 0, 1)};
                case "pace": return new int[] {head(r), turns(r), in(r, 1, 9), in(r, 1, 60), in(r, 0, 1)};
                case "roses": return new int[] {head(r), speedPace(r), in(r, 0, 60), r.nextBoolean() ? in(r, -500, 500) : in(r, -99999, 99999), in(r, 0, 1)};
                default: return more(r, name);
            }
        }

        private static int far(Random r) {
            return r.nextBoolean() ? in(r, 1, 60) : in(r, 1, 540);
        }

        private static int[] set(Random r) {
            int what = in(r, 0, 2);
            int v = what == 0 ? (r.nextBoolean() ? in(r, -999, 999) : in(r, -9999, 9999)) : what == 1 ? in(r, 0, 9) : in(r, 0, 99);
            return new int[] {head(r), what, v};
        }

        private static int[] more(Random r, String name) {
            switch (name) {
                case "judge": case "laws": return new int[] {sheet(r), head(r), turns(r), speedPace(r)};
                case "turned": return new int[] {sheet(r), head(r), speedPace(r), in(r, 0, 1)};
                case "kinds": return new int[] {sheet(r), head(r), turns(r), speedPace(r), in(r, 0, 2)};
                case "whose": return new int[] {sheet(r), turns(r), speedPace(r)};
                case "film": return new int[] {sheet(r), head(r), turns(r), speedPace(r), r.nextBoolean() ? in(r, 0, 3) : in(r, 0, 40)};
                case "drawn": return new int[] {in(r, 0, 99999), head(r), in(r, 0, 60), 10 * in(r, 0, 100) + in(r, 1, 9), in(r, 0, 2)};
                case "odds": return new int[] {in(r, 0, 99999), 100 * in(r, 0, 60) + in(r, 1, 40), head(r), 10 * in(r, 0, 100) + in(r, 1, 9), r.nextBoolean() ? in(r, 0, 500) : in(r, 0, 99999), in(r, 0, 1)};
                case "sheet": return new int[] {r.nextInt(4), r.nextInt(8) == 0 ? -1 : in(r, 0, 2), r.nextBoolean() ? in(r, 0, 4) : in(r, 0, 40)};
                case "cell": return new int[] {sheet(r), r.nextBoolean() ? in(r, 0, 4) : in(r, 0, 40), r.nextBoolean() ? in(r, 0, 9) : r.nextInt()};
                case "copy": return new int[] {sheet(r), in(r, 0, 10), sheet(r), in(r, 0, 10), in(r, 0, 12)};
                case "headsBy": return new int[] {sheet(r), in(r, 0, 2), in(r, 0, 4), in(r, 0, 5)};
                default: return new int[] {in(r, 0, 9), in(r, 0, 6)};
            }
        }
    }

    /** Texts of chance, most of them without a fault. */
    private static final class Texts {
        static String of(Random r) {
            String text = "builds " + or(r, r.nextInt(3)) + ";fades " + (r.nextInt(3) > 0 ? r.nextInt(30) : or(r, r.nextInt(2))) + " ;\nbends " + or(r, 1) + ";";
            if (r.nextInt(4) == 0) {
                text = "builds " + deep(r) + "; fades 10; bends 100;";
            }
            if (r.nextInt(4) == 0) {
                int at = r.nextInt(text.length() + 1);
                String bit = new String[] {"(", ")", "not ", "-", " ", "xy", "12345", "A", ";", "\t", "9", "or "}[r.nextInt(12)];
                text = text.substring(0, at) + bit + text.substring(r.nextBoolean() ? at : Math.min(text.length(), at + 1));
            }
            return r.nextInt(12) == 0 ? text.substring(0, r.nextInt(text.length() + 1)) : text;
        }

        private static String deep(Random r) {
            StringBuilder text = new StringBuilder();
            int closes = 0;
            for (int i = 4 + r.nextInt(3); i > 0; i--) {
                int sort = r.nextInt(4);
                closes += sort < 2 ? 1 : 0;
                text.append(sort == 0 ? "(" : sort == 1 ? "(not " : sort == 2 ? "-" : "1 + - ");
            }
            text.append("speed");
            for (int i = 0; i < closes; i++) {
                text.append(")");
            }
            return text.toString();
        }

        private static String or(Random r, int depth) {
            return and(r, depth) + (r.nextInt(6) == 0 ? " or " + and(r, depth) : "");
        }

        private static String and(Random r, int depth) {
            return not(r, depth) + (r.nextInt(6) == 0 ? " and " + not(r, depth) : "");
        }

        private static String not(Random r, int depth) {
            return r.nextInt(8) == 0 ? "not " + not(r, depth) : sum(r, depth) + (r.nextInt(5) == 0 ? (r.nextBoolean() ? "<" : " = ") + sum(r, depth) : "");
        }

        private static String sum(Random r, int depth) {
            String text = term(r, depth);
            for (int i = r.nextInt(3); i > 0; i--) {
                text += (r.nextBoolean() ? "+" : " - ") + term(r, depth);
            }
            return text;
        }

        private static String term(Random r, int depth) {
            return one(r, depth) + (r.nextInt(3) == 0 ? "*" + one(r, depth) : "");
        }

        private static String one(Random r, int depth) {
            int sort = r.nextInt(depth > 0 ? 9 : 7);
            if (sort < 3) {
                return "" + r.nextInt(r.nextBoolean() ? 100 : 10000);
            }
            if (sort < 7) {
                return new String[] {"speed", "cake", "used", "more", "sense", "eyes"}[r.nextInt(6)];
            }
            return sort == 7 ? "- " + one(r, depth - 1) : "(" + or(r, depth - 1) + ")";
        }
    }

    private static final class Fault extends Exception {
        private static final long serialVersionUID = 1L;
        final int place;

        Fault(int place) {
            this.place = place;
        }
    }

    /** What the names stand for. */
    private static final class Facts {
        final int speed, cake, used, more, sense, eyes;

        Facts(Person p, int speed, int eyes) {
            this.speed = speed;
            this.eyes = eyes;
            cake = p.cake;
            used = p.used;
            more = p.more;
            sense = p.sense;
        }
    }

    private static final class Law {
        private final List<String> tokens = new ArrayList<>();
        private final List<Integer> places = new ArrayList<>();
        private final List<ToIntFunction<Facts>> parts = new ArrayList<>();
        private int at = 0;

        Law(String tape) throws Fault {
            int i = 0;
            while (i < tape.length()) {
                char c = tape.charAt(i);
                int from = i++;
                if (c == ' ' || c == '\n') {
                    continue;
                }
                while (i < tape.length() && (lower(c) && lower(tape.charAt(i)) || digit(c) && digit(tape.charAt(i)))) {
                    i++;
                }
                tokens.add(tape.substring(from, i));
                places.add(from);
            }
            tokens.add("");
            places.add(tape.length());
            for (String key : new String[] {"builds", "fades", "bends"}) {
                want(key);
                parts.add(or(0));
                want(";");
            }
            want("");
        }

        int says(int part, Facts f) {
            int v = parts.get(part).applyAsInt(f);
            int top = part == 1 ? 100 : 999;
            return v < 0 ? 0 : v > top ? top : v;
        }

        private static boolean lower(char c) {
            return c >= 'a' && c <= 'z';
        }

        private static boolean digit(char c) {
            return c >= '0' && c <= '9';
        }

        private boolean is(String token) {
            return tokens.get(at).equals(token);
        }

        private void want(String token) throws Fault {
            if (!is(token)) {
                throw new Fault(places.get(at));
            }
            at++;
        }

        private static int truth(boolean b) {
            return b ? 1 : 0;
        }

        private ToIntFunction<Facts> or(int open) throws Fault {
            ToIntFunction<Facts> left = and(open);
            while (is("or")) {
                at++;
                ToIntFunction<Facts> l = left, r = and(open);
                left = f -> truth(l.applyAsInt(f) != 0 | r.applyAsInt(f) != 0);
            }
            return left;
        }

        private ToIntFunction<Facts> and(int open) throws Fault {
            ToIntFunction<Facts> left = not(open);
            while (is("and")) {
                at++;
                ToIntFunction<Facts> l = left, r = not(open);
                left = f -> truth(l.applyAsInt(f) != 0 & r.applyAsInt(f) != 0);
            }
            return left;
        }

        private ToIntFunction<Facts> not(int open) throws Fault {
            if (is("not")) {
                mayOpen(open);
                ToIntFunction<Facts> r = not(open + 1);
                return f -> truth(r.applyAsInt(f) == 0);
            }
            ToIntFunction<Facts> l = sum(open);
            if (is("<")) {
                at++;
                ToIntFunction<Facts> r = sum(open);
                return f -> truth(l.applyAsInt(f) < r.applyAsInt(f));
            }
            if (is("=")) {
                at++;
                ToIntFunction<Facts> r = sum(open);
                return f -> truth(l.applyAsInt(f) == r.applyAsInt(f));
            }
            return l;
        }

        private ToIntFunction<Facts> sum(int open) throws Fault {
            ToIntFunction<Facts> left = term(open);
            while (is("+") || is("-")) {
                boolean plus = is("+");
                at++;
                ToIntFunction<Facts> l = left, r = term(open);
                left = plus ? f -> l.applyAsInt(f) + r.applyAsInt(f) : f -> l.applyAsInt(f) - r.applyAsInt(f);
            }
            return left;
        }

        private ToIntFunction<Facts> term(int open) throws Fault {
            ToIntFunction<Facts> left = one(open);
            while (is("*")) {
                at++;
                ToIntFunction<Facts> l = left, r = one(open);
                left = f -> l.applyAsInt(f) * r.applyAsInt(f);
            }
            return left;
        }

        private ToIntFunction<Facts> one(int open) throws Fault {
            String token = tokens.get(at);
            if (!token.isEmpty() && digit(token.charAt(0)) && token.length() <= 4) {
                at++;
                int v = Integer.parseInt(token);
                return f -> v;
            }
            switch (token) {
                case "speed": at++; return f -> f.speed;
                case "cake": at++; return f -> f.cake;
                case "used": at++; return f -> f.used;
                case "more": at++; return f -> f.more;
                case "sense": at++; return f -> f.sense;
                case "eyes": at++; return f -> f.eyes;
                case "-": {
                    mayOpen(open);
                    ToIntFunction<Facts> r = one(open + 1);
                    return f -> -r.applyAsInt(f);
                }
                case "(": {
                    mayOpen(open);
                    ToIntFunction<Facts> r = or(open + 1);
                    want(")");
                    return r;
                }
                default: throw new Fault(places.get(at));
            }
        }

        private void mayOpen(int open) throws Fault {
            if (open == 5) {
                throw new Fault(places.get(at));
            }
            at++;
        }
    }

    private static final class Person {
        int kind, more, sense, cake, used, along, aside;
        boolean down;

        Person(int kind, int more) {
            this.kind = kind;
            this.more = more;
        }

        Person same() {
            Person p = new Person(kind, more);
            p.sense = sense;
            p.cake = cake;
            p.used = used;
            p.along = along;
            p.aside = aside;
            p.down = down;
            return p;
        }

        Person thought() {
            Person p = same();
            p.along = 0;
            p.aside = 0;
            p.down = false;
            return p;
        }

        int falls() {
            return kind == 1 || kind == 3 ? 800 + 20 * more : kind == 4 ? 400 : 800;
        }

        void fade(Law law, int eyes) {
            int f = law.says(1, new Facts(this, 0, eyes));
            if (kind == 2 || kind == 4) {
                f += 5;
            }
            if (kind == 4) {
                f /= 3;
            }
            f = Math.max(0, Math.min(100, f));
            sense = sense - sense * f / 100;
        }

        Person turned(Law law, int n, int speed) {
            for (int i = 0; i < Math.abs(n); i++) {
                int b = law.says(0, new Facts(this, speed, 1));
                if (kind == 1 || kind == 3) {
                    b /= 2;
                }
                if (kind == 3 && speed > 4) {
                    b /= 2;
                }
                if (kind == 2 || kind == 4) {
                    b -= 5 * more;
                }
                if (kind == 5) {
                    b += speed * more;
                }
                b = Math.max(0, b);
                sense = Math.max(-9999, Math.min(9999, n > 0 ? sense + b : sense - b));
                fade(law, 1);
            }
            return this;
        }

        Person waits(Law law, int seconds, int eyes) {
            for (int i = 0; i < seconds; i++) {
                fade(law, eyes);
            }
            return this;
        }

        Person second(Law law, int pace, int eyes) {
            if (down) {
                return this;
            }
            if (Math.abs(sense) >= falls()) {
                down = true;
                return this;
            }
            int bends = law.says(2, new Facts(this, pace, eyes));
            along = Math.min(99999, along + pace);
            aside = Math.max(-99999, Math.min(99999, aside + sense * bends / 1000));
            fade(law, eyes);
            return this;
        }

        Person walks(Law law, int seconds, int pace, int eyes) {
            for (int i = 0; i < seconds; i++) {
                second(law, pace, eyes);
            }
            return this;
        }
    }

    private static final class Model {
        private final List<Person> people = new ArrayList<>();
        private final List<Law> laws = new ArrayList<>();
        private final int[][] sheets = new int[4][];
        private final int[] sorts = new int[4];
        private final StringBuilder tape = new StringBuilder();
        private int law = 0;
        private List<Person> image = null;
        private int imageLaw = 0;

        Model() {
            try {
                laws.add(new Law("builds 20 + speed * 10 ; fades 10 ; bends 100 ; "));
            } catch (Fault f) {
                throw new IllegalStateException(f);
            }
        }

        private static boolean in(int v, int low, int high) {
            return low <= v && v <= high;
        }

        private static boolean pair(int v) {
            return in(v, 11, 99) && v % 10 != 0;
        }

        private Law now() {
            return laws.get(law);
        }

        private boolean nobody(int h) {
            return !in(h, 0, people.size() - 1);
        }

        long call(String name, int[] a) {
            switch (name) {
                case "count": return !in(a[0], 0, 3) ? -2 : new int[] {people.size(), laws.size(), law, tape.length()}[a[0]];
                case "feed": return feed(a);
                case "text": return text();
                case "force": return force(a[0]);
                case "asks": return asks(a[0], a[1], a[2]);
                case "head": return head(a[0], a[1]);
                case "wins": return wins(a[0], a[1], a[2], a[3]);
                case "odds": return odds(a[0], a[1], a[2], a[3], a[4], a[5]);
                case "image": return image();
                case "back": return back();
                case "sheet": return sheet(a[0], a[1], a[2]);
                case "cell": return cell(a[0], a[1], a[2]);
                case "copy": return copy(a[0], a[1], a[2], a[3], a[4]);
                case "headsBy": return headsBy(a[0], a[1], a[2], a[3]);
                case "taken": return taken(a[0], a[1]);
                case "judge": case "turned": case "kinds": case "laws": case "whose": case "film": return toldWay(name, a);
                case "drawn": return nobody(a[1]) ? -100005 : drawn(a[0], a[1], a[2], a[3], a[4]);
                default: return nobody(a[0]) ? -100005 : ofHead(name, people.get(a[0]), a);
            }
        }

        private long ofHead(String name, Person p, int[] a) {
            switch (name) {
                case "set": return set(p, a[1], a[2]);
                case "told": return told(p, a[1]);
                case "turn": return turn(p, a[1], a[2]);
                case "rest": return !in(a[1], 0, 60) || !in(a[2], 0, 1) ? -100007 : p.waits(now(), a[1], a[2]).sense;
                case "walk": return !in(a[1], 0, 60) || !in(a[2], 10, 91) || a[2] % 10 > 1 ? -100007 : p.walks(now(), a[1], a[2] / 10, a[2] % 10).aside;
                case "up": return up(p);
                case "ends": return ends(p, a[1], a[2], a[3], a[4]);
                case "stands": return stands(p, a[1]);
                case "undo": return undo(p, a[1], a[2]);
                case "fine": return fine(p, a[1]);
                case "race": return race(p, a[1], a[2], a[3], a[4]);
                case "pace": return pace(p, a[1], a[2], a[3], a[4]);
                case "roses": return roses(p, a[1], a[2], a[3], a[4]);
                default: throw new IllegalStateException(name);
            }
        }

        private long feed(int[] a) {
            if (!in(a[0], 1, 5)) {
                return -2;
            }
            for (int i = 1; i <= 5; i++) {
                if (!in(a[i], 0, 255)) {
                    return -2;
                }
            }
            if (tape.length() + a[0] > 160) {
                return -4;
            }
            for (int i = 1; i <= a[0]; i++) {
                tape.append((char) a[i]);
            }
            return tape.length();
        }

        private long text() {
            if (laws.size() == 6) {
                return -4;
            }
            String whole = tape.toString();
            tape.setLength(0);
            try {
                laws.add(new Law(whole));
                return laws.size() - 1;
            } catch (Fault f) {
                return -100 - f.place;
            }
        }

        private long force(int t) {
            if (!in(t, 0, laws.size() - 1)) {
                return -2;
            }
            int was = law;
            law = t;
            return was;
        }

        private long asks(int part, int h, int v) {
            if (!in(part, 0, 2) || nobody(h) || !in(v, 0, 91) || v % 10 > 1) {
                return -2;
            }
            return now().says(part, new Facts(people.get(h), v / 10, v % 10));
        }

        private long head(int kind, int more) {
            if (!in(kind, 0, 5) || !in(more, 0, 9)) {
                return -2;
            }
            if (people.size() == 5) {
                return -4;
            }
            people.add(new Person(kind, more));
            return people.size() - 1;
        }

        private long set(Person p, int what, int v) {
            if (!in(what, 0, 2) || !in(v, what == 0 ? -9999 : 0, new int[] {9999, 9, 99}[what])) {
                return -100007;
            }
            int was = new int[] {p.sense, p.cake, p.used}[what];
            p.sense = what == 0 ? v : p.sense;
            p.cake = what == 1 ? v : p.cake;
            p.used = what == 2 ? v : p.used;
            return was;
        }

        private long told(Person p, int what) {
            int[] all = {p.kind, p.more, p.sense, p.cake, p.used, p.along, p.aside, p.down ? 1 : 0, p.falls()};
            return in(what, 0, 8) ? all[what] : -100007;
        }

        private long turn(Person p, int n, int speed) {
            if (!in(n, -40, 40) || !in(speed, 1, 9)) {
                return -100007;
            }
            p.turned(now(), n, speed);
            p.used = p.used == 99 ? 99 : p.used + 1;
            return p.sense;
        }

        private long up(Person p) {
            int was = p.aside;
            p.along = 0;
            p.aside = 0;
            p.down = false;
            return was;
        }

        private long ends(Person p, int n, int wsp, int seconds, int what) {
            if (!in(n, -40, 40) || !in(wsp, 11, 6099) || !pair(wsp % 100) || !in(seconds, 0, 60) || !in(what, 0, 3)) {
                return -100007;
            }
            Person t = p.thought().turned(now(), n, wsp / 10 % 10).waits(now(), wsp / 100, 1);
            int fell = -1;
            for (int i = 0; i < seconds; i++) {
                boolean was = t.down;
                t.second(now(), wsp % 10, 1);
                fell = !was && t.down ? i : fell;
            }
            return new int[] {t.sense, t.aside, t.along, fell}[what];
        }

        private long stands(Person p, int speed) {
            if (!in(speed, 1, 9)) {
                return -100007;
            }
            for (int n = 40; n >= 1; n--) {
                if (!p.thought().turned(now(), n, speed).second(now(), 1, 1).down) {
                    return n;
                }
            }
            return 0;
        }

        private long undo(Person p, int speed, int what) {
            if (!in(speed, 1, 9) || !in(what, 0, 1)) {
                return -100007;
            }
            int best = 40;
            int least = Integer.MAX_VALUE;
            for (int n = 40; n >= 0; n--) {
                int left = Math.abs(p.thought().turned(now(), p.sense > 0 ? -n : n, speed).sense);
                if (left <= least) {
                    least = left;
                    best = n;
                }
            }
            return what == 0 ? best : least;
        }

        private long fine(Person p, int much) {
            if (!in(much, 1, 9999)) {
                return -100007;
            }
            for (int w = 0; w <= 60; w++) {
                if (Math.abs(p.thought().waits(now(), w, 1).sense) < much) {
                    return w;
                }
            }
            return -1;
        }

        private static boolean racing(int n, int sp, int fw, int what) {
            return in(n, -40, 40) && pair(sp) && in(fw / 1000, 1, 540) && in(fw % 1000, 0, 999) && in(what, 0, 1);
        }

        private long race(Person p, int n, int sp, int fw, int what) {
            if (!racing(n, sp, fw, what)) {
                return -100007;
            }
            int seconds = (fw / 1000 + sp % 10 - 1) / (sp % 10);
            for (int w = 0; w <= 60; w++) {
                Person t = p.thought().turned(now(), n, sp / 10).waits(now(), w, 1);
                if (seconds <= 60 && !t.walks(now(), seconds, sp % 10, 1).down && Math.abs(t.aside) <= fw % 1000) {
                    return what == 0 ? w : w + seconds;
                }
            }
            return -1;
        }

        private long wins(int n, int sp, int fw, int what) {
            if (!racing(n, sp, fw, what)) {
                return -100007;
            }
            int best = -1;
            for (int h = people.size() - 1; h >= 0; h--) {
                long time = race(people.get(h), n, sp, fw, 1);
                if (time != -1 && (best == -1 || time <= race(people.get(best), n, sp, fw, 1))) {
                    best = h;
                }
            }
            return best == -1 || what == 0 ? best : race(people.get(best), n, sp, fw, 1);
        }

        private long pace(Person p, int n, int speed, int far, int what) {
            if (!in(n, -40, 40) || !in(speed, 1, 9) || !in(far, 1, 60) || !in(what, 0, 1)) {
                return -100007;
            }
            int best = -1;
            int least = -1;
            for (int q = 1; q <= 9; q++) {
                Person t = p.thought().turned(now(), n, speed).walks(now(), (int) Math.ceil((double) far / q), q, 1);
                if (!t.down && (best == -1 || Math.abs(t.aside) <= least)) {
                    best = q;
                    least = Math.abs(t.aside);
                }
            }
            return what == 0 ? best : least;
        }

        private static List<Integer> order() {
            List<Integer> all = new ArrayList<>();
            all.add(0);
            for (int n = 1; n <= 40; n++) {
                all.add(n);
                all.add(-n);
            }
            return all;
        }

        private long roses(Person p, int sp, int seconds, int at, int what) {
            if (!pair(sp) || !in(seconds, 0, 60) || !in(at, -99999, 99999) || !in(what, 0, 1)) {
                return -100007;
            }
            int best = 0;
            int least = Integer.MAX_VALUE;
            for (int n : order()) {
                int off = Math.abs(p.thought().turned(now(), n, sp / 10).walks(now(), seconds, sp % 10, 1).aside - at);
                if (off < least) {
                    least = off;
                    best = n;
                }
            }
            return what == 0 ? best : least;
        }

        private long toldWay(String name, int[] a) {
            int h = name.equals("whose") ? 0 : a[1];
            if (!in(a[0], 0, 3)) {
                return -2;
            }
            if (sheets[a[0]] == null && !name.equals("film")) {
                return -11;
            }
            if (!name.equals("whose") && nobody(h)) {
                return -5;
            }
            int n = name.equals("turned") ? 0 : name.equals("whose") ? a[1] : a[2];
            int sp = name.equals("turned") || name.equals("whose") ? a[2] : a[3];
            if (!in(n, -40, 40) || !pair(sp)) {
                return -7;
            }
            switch (name) {
                case "judge": return judge(sheets[a[0]], people.get(h), now(), n, sp);
                case "turned": return !in(a[3], 0, 1) ? -7 : turned(sheets[a[0]], people.get(h), sp, a[3]);
                case "kinds": return !in(a[4], 0, 2) ? -7 : kinds(sheets[a[0]], people.get(h), n, sp, a[4]);
                case "laws": return lawBits(sheets[a[0]], people.get(h), n, sp);
                case "whose": return whose(sheets[a[0]], n, sp);
                default: return !in(a[4], 0, 40) ? -7 : film(a[0], people.get(h), n, sp, a[4]);
            }
        }

        private static int judge(int[] row, Person p, Law by, int n, int sp) {
            for (int i = 0; i < row.length; i++) {
                if (row[i] != p.thought().turned(by, n, sp / 10).walks(by, i + 1, sp % 10, 1).aside) {
                    return i;
                }
            }
            return -1;
        }

        private long turned(int[] row, Person p, int sp, int what) {
            List<Integer> fit = new ArrayList<>();
            for (int n : order()) {
                if (judge(row, p, now(), n, sp) == -1) {
                    fit.add(n);
                }
            }
            return what == 0 ? fit.size() : fit.isEmpty() ? -100 : fit.get(0);
        }

        private long kinds(int[] row, Person p, int n, int sp, int sort) {
            int bits = 0;
            for (int i = 0; i < (sort == 0 ? 6 : 10); i++) {
                Person q = p.same();
                q.kind = sort == 0 ? i : p.kind;
                q.more = sort == 1 ? i : p.more;
                q.cake = sort == 2 ? i : p.cake;
                bits += judge(row, q, now(), n, sp) == -1 ? 1 << i : 0;
            }
            return bits;
        }

        private long lawBits(int[] row, Person p, int n, int sp) {
            int bits = 0;
            for (int t = 0; t < laws.size(); t++) {
                bits += judge(row, p, laws.get(t), n, sp) == -1 ? 1 << t : 0;
            }
            return bits;
        }

        private long whose(int[] row, int n, int sp) {
            int bits = 0;
            for (int h = 0; h < people.size(); h++) {
                bits += judge(row, people.get(h), now(), n, sp) == -1 ? 1 << h : 0;
            }
            return bits;
        }

        private long film(int s, Person p, int n, int sp, int seconds) {
            int[] row = new int[seconds];
            for (int i = 0; i < seconds; i++) {
                row[i] = p.thought().turned(now(), n, sp / 10).walks(now(), i + 1, sp % 10, 1).aside;
            }
            sheets[s] = row;
            sorts[s] = 2;
            return seconds;
        }

        private Person lots(Person p, int seed, int seconds, int op) {
            Person t = p.thought();
            long lot = (long) seed + 1;
            for (int i = 0; i < seconds; i++) {
                lot = Math.floorMod(lot * 48271L, 2147483647L);
                t.second(now(), op % 10, lot % 100 < op / 10 ? 0 : 1);
            }
            return t;
        }

        private long drawn(int seed, int h, int seconds, int op, int what) {
            if (!in(seed, 0, 99999) || !in(seconds, 0, 60) || !in(op, 1, 1009) || op % 10 == 0 || !in(what, 0, 2)) {
                return -100007;
            }
            Person t = lots(people.get(h), seed, seconds, op);
            return new int[] {t.aside, t.along, t.down ? 1 : 0}[what];
        }

        private long odds(int seed, int ss, int h, int op, int wide, int part) {
            boolean fit = in(seed, 0, 99999) && in(ss, 1, 6040) && in(ss % 100, 1, 40) && in(op, 1, 1009) && op % 10 != 0;
            if (!fit || !in(wide, 0, 99999) || !in(part, 0, 1) || nobody(h)) {
                return -4611686018427387904L;
            }
            int many = 0;
            int of = ss % 100;
            for (int i = 0; i < of; i++) {
                many += Math.abs(lots(people.get(h), seed + i, ss / 100, op).aside) <= wide ? 1 : 0;
            }
            for (int d = of; d > 1; d--) {
                if (many % d == 0 && of % d == 0) {
                    many /= d;
                    of /= d;
                }
            }
            return part == 0 ? many : of;
        }

        private long image() {
            image = new ArrayList<>();
            for (Person p : people) {
                image.add(p.same());
            }
            imageLaw = law;
            return people.size();
        }

        private long back() {
            if (image == null) {
                return -3;
            }
            people.clear();
            for (Person p : image) {
                people.add(p.same());
            }
            law = imageLaw;
            return people.size();
        }

        private long sheet(int s, int sort, int n) {
            if (!in(s, 0, 3) || !in(sort, -1, 2) || sort != -1 && n > 40) {
                return -2;
            }
            if (sort != -1 && n < 0) {
                return -14;
            }
            sheets[s] = sort == -1 ? null : new int[n];
            sorts[s] = sort;
            return 1;
        }

        private long cell(int s, int i, int v) {
            if (!in(s, 0, 3)) {
                return -2;
            }
            if (sheets[s] == null) {
                return -11;
            }
            if (!in(i, 0, sheets[s].length - 1)) {
                return -12;
            }
            sheets[s][i] = sorts[s] == 0 ? (byte) v : sorts[s] == 1 ? (short) v : v;
            return 1;
        }

        private long copy(int s, int i, int other, int j, int n) {
            if (!in(s, 0, 3) || !in(other, 0, 3)) {
                return -2;
            }
            if (sheets[s] == null || sheets[other] == null) {
                return -11;
            }
            if (sorts[s] != sorts[other]) {
                return -13;
            }
            if (i < 0 || j < 0 || n < 0 || (long) i + n > sheets[s].length || (long) j + n > sheets[other].length) {
                return -12;
            }
            int[] were = sheets[s].clone();
            for (int k = 0; k < n; k++) {
                sheets[other][j + k] = were[i + k];
            }
            return n;
        }

        private long headsBy(int s, int sort, int at, int n) {
            if (!in(s, 0, 3) || !in(sort, 0, 2) || !in(n, 0, 5)) {
                return -2;
            }
            if (sheets[s] == null) {
                return -11;
            }
            if (sorts[s] != sort) {
                return -13;
            }
            int came = 0;
            for (int k = 0; k < n; k++) {
                long first = (long) at + 2 * k;
                if (first < 0 || first + 1 >= sheets[s].length) {
                    return -12;
                }
                came += head(sheets[s][(int) first], sheets[s][(int) first + 1]) >= 0 ? 1 : 0;
            }
            return came;
        }

        private long taken(int i, int kind) {
            if (!in(kind, 0, 6)) {
                return -2;
            }
            if (!in(i, 0, 9)) {
                return -12;
            }
            if (nobody(i % 5)) {
                return -11;
            }
            Person p = people.get(i % 5);
            if (i >= 5) {
                return kind != 6 ? -13 : p.down ? 1 : 0;
            }
            int[][] are = {{0}, {0, 1}, {0, 2}, {0, 1, 3}, {0, 2, 4}, {0, 5}};
            for (int k : are[p.kind]) {
                if (k == kind) {
                    return i;
                }
            }
            return -13;
        }
    }
}
