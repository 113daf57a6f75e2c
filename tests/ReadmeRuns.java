import java.lang.reflect.Method;
import java.nio.file.Files;
import java.nio.file.Path;
import java.util.regex.Matcher;
import java.util.regex.Pattern;

/** Calls what README.md shows, block by block, and compares the answers told there; run from the project's folder. */
public final class ReadmeRuns {
    private static final Pattern SHOWN = Pattern.compile("lawn\\.(\\w+)\\(([^)]*(?:'\\)'[^)]*)?)\\);\\s*// -> (-?\\d+)(?: .*)?");
    private static int wrong = 0;

    public static void main(String[] args) throws Exception {
        RoundAndRound lawn = new RoundAndRound();
        int calls = 0;
        for (String line : Files.readString(Path.of("README.md")).split("\n")) {
            Matcher shown = SHOWN.matcher(line);
            if (line.startsWith("RoundAndRound lawn = new RoundAndRound();")) {
                lawn = new RoundAndRound();
            } else if (shown.matches()) {
                calls++;
                compare(lawn, line, shown);
            } else if (line.startsWith("lawn.")) {
                say("no answer is told: " + line);
            }
        }
        for (Method m : RoundAndRound.class.getMethods()) {
            if (m.getDeclaringClass() == RoundAndRound.class) {
                tabled(m);
            }
        }
        if (calls < 20) {
            say("just " + calls + " calls were found");
        }
        System.out.println(wrong == 0 ? "README.md tells what is so" : wrong + " lines of README.md are not so");
        if (wrong != 0) {
            System.exit(1);
        }
    }

    private static void compare(RoundAndRound lawn, String line, Matcher shown) throws Exception {
        String[] told = shown.group(2).isBlank() ? new String[0] : shown.group(2).split(", ");
        Class<?>[] types = new Class<?>[told.length];
        Object[] values = new Object[told.length];
        for (int i = 0; i < told.length; i++) {
            types[i] = int.class;
            values[i] = told[i].startsWith("'") ? (int) told[i].charAt(1) : Integer.parseInt(told[i].trim());
        }
        long got = ((Number) RoundAndRound.class.getMethod(shown.group(1), types).invoke(lawn, values)).longValue();
        if (got != Long.parseLong(shown.group(3))) {
            say(line + " -- answered " + got);
        }
    }

    /** Each call of the class has a row in the table of calls, with as many arguments as it takes. */
    private static void tabled(Method m) throws Exception {
        int found = 0;
        for (String line : Files.readString(Path.of("README.md")).split("\n")) {
            Matcher row = Pattern.compile("\\| `" + m.getName() + "\\(([^)]*)\\)` \\|.*").matcher(line);
            if (row.matches()) {
                int takes = row.group(1).isEmpty() ? 0 : row.group(1).split(", ").length;
                found += takes == m.getParameterCount() ? 1 : 0;
            }
        }
        if (found != 1) {
            say(m.getName() + " has " + found + " rows in the table of calls");
        }
    }

    private static void say(String what) {
        wrong++;
        System.out.println(what);
    }
}
