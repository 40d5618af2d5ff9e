import java.nio.file.Files;
import java.nio.file.Path;
import java.util.regex.Matcher;
import java.util.regex.Pattern;

/** The program's text keeps to the rules of LANGUAGE.md that a text can be searched for. */
public final class LanguageTest {
    private static final String[][] NEVER = {
        {"6", "\\b(throw|try|catch|synchronized|assert|equals|hashCode|toString|finally|throws)\\b"},
        {"2", "->|::|\\brecord\\b"},
        {"3", "\\b(Object|Long|Double|Float|Map|Set|var)\\b(?!\\.)|\\bHash|@"},
        {"4", "\\w+Exact\\b|\\bSystem\\.(?!arraycopy)|\\bArrays\\.(?!copyOf|copyOfRange|fill)|\\bString\\.format"},
        {"4", "import (?!java\\.util\\.Arrays;)"},
        {"5", "static \\{"},
        {"9", "while \\(true\\)|for \\(;;\\)"},
        {"13", "\\b(Random|Thread|Runtime|File|Clock|Instant|nanoTime|currentTimeMillis|getenv)\\b"},
    };
    private static final int LONGEST_METHOD = 60;
    private static int wrong = 0;

    public static void main(String[] args) throws Exception {
        String path = args.length > 0 ? args[0] : "src/main/java/FlowCurves.java";
        String text = Files.readString(Path.of(path));
        String code = text.replaceAll("(?s)/\\*.*?\\*/", "").replaceAll("//[^\n]*", "");
        for (String[] rule : NEVER) {
            Matcher found = Pattern.compile(rule[1]).matcher(code);
            while (found.find()) {
                say("rule " + rule[0] + ": " + found.group());
            }
        }
        if (Pattern.compile("(?m)^package ").matcher(code).find()) {
            say("a package line");
        }
        for (char sign : text.toCharArray()) {
            if (sign > 127) {
                say("a sign above 127: " + (int) sign);
            }
        }
        methods(text);
        System.out.println("LanguageTest: " + wrong + " wrong");
        if (wrong != 0) {
            System.exit(1);
        }
    }

    /** Rule 11: a method ends with the closing brace at its own indent. */
    private static void methods(String text) {
        Matcher head = Pattern.compile("(?m)^( {4}| {8})(?:\\w[\\w\\[\\]]* )*\\w+\\(([^()]*)\\) \\{$").matcher(text);
        int seen = 0;
        while (head.find()) {
            seen++;
            int end = text.indexOf("\n" + head.group(1) + "}", head.end());
            long lines = text.substring(head.start(), end).lines().count();
            if (lines > LONGEST_METHOD) {
                say("rule 11: " + lines + " lines in " + head.group().trim());
            }
            if (head.group(2).split(",").length > 7) {
                say("rule 11: too many parameters in " + head.group().trim());
            }
        }
        if (seen < 60) {
            say("only " + seen + " methods were seen: the search is broken");
        }
    }

    private static void say(String what) {
        wrong++;
        System.out.println(what);
    }
}
