import java.nio.file.Files;
import java.nio.file.Path;
import java.util.ArrayList;
import java.util.HashSet;
import java.util.List;
import java.util.Set;
import java.util.regex.Matcher;
import java.util.regex.Pattern;

/** Reads the source for what ../shared/LANGUAGE.md rules out and a search can find; run from the project's folder. */
public final class LanguageRules {
    private static final String[] RULED_OUT = {"import", "package", "throw", "throws", "try", "catch", "synchronized", "assert", "native",
        "volatile", "protected", "transient", "hashCode", "toString", "Object", "System\\.(?!arraycopy)", "Math\\.\\w+Exact", "->", "::", "@"};
    private static int wrong = 0;

    public static void main(String[] args) throws Exception {
        String source = Files.readString(Path.of("src/main/java/RoundAndRound.java"));
        for (int i = 0; i < source.length(); i++) {
            if (source.charAt(i) > 126 || source.charAt(i) < 32 && source.charAt(i) != '\n') {
                say("a sign that isn't plain at " + i);
            }
        }
        String code = source.replaceAll("(?s)/\\*.*?\\*/", "").replaceAll("//[^\n]*", "");
        for (String word : RULED_OUT) {
            String pattern = Character.isLetter(word.charAt(0)) ? "\\b" + word + (word.endsWith(")") ? "" : "\\b") : word;
            if (Pattern.compile(pattern).matcher(code).find()) {
                say("ruled out: " + word);
            }
        }
        names(code);
        methods(source.split("\n"));
        long classes = Pattern.compile("\\bclass \\w+").matcher(code).results().count();
        if (classes > 12) {
            say("too many classes: " + classes);
        }
        System.out.println(wrong == 0 ? "the source keeps to the rules" : wrong + " rules are broken");
        if (wrong != 0) {
            System.exit(1);
        }
    }

    private static void names(String code) {
        Set<String> open = new HashSet<>();
        List<String> own = new ArrayList<>();
        Matcher m = Pattern.compile("(?m)^ +(public |private )?(?:static )?(?:final )?[\\w\\[\\]]+ (\\w+)\\(([^)]*)\\) \\{").matcher(code);
        while (m.find()) {
            if (m.group(2).equals("if")) {
                continue;
            }
            if ("public ".equals(m.group(1))) {
                open.add(m.group(2));
            } else {
                own.add(m.group(2));
            }
            if (m.group(3).split(",").length > 7) {
                say("more than seven parameters: " + m.group(2));
            }
        }
        for (String name : own) {
            if (open.contains(name)) {
                say("a private method bears the name of a public one: " + name);
            }
        }
        if (open.size() != 35) {
            say("public methods: " + open.size());
        }
    }

    private static void methods(String[] lines) {
        int from = -1;
        for (int i = 0; i < lines.length; i++) {
            if (lines[i].matches(" {4}(?: {4})?\\S.*\\) \\{")) {
                from = i;
            } else if (from >= 0 && lines[i].matches(" {4}(?: {4})?\\}")) {
                if (i - from > 60 && lines[i].indexOf('}') == lines[from].indexOf(lines[from].trim())) {
                    say("a long method from line " + (from + 1) + " on");
                }
            }
        }
    }

    private static void say(String what) {
        wrong++;
        System.out.println(what);
    }
}
