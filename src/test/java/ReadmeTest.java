import java.lang.reflect.Method;
import java.lang.reflect.Modifier;
import java.nio.file.Files;
import java.nio.file.Path;
import java.util.regex.Matcher;
import java.util.regex.Pattern;

/** README.md tells the answers that are given, and names every call. */
public final class ReadmeTest {
    private static final Pattern CALL = Pattern.compile("^x\\.(\\w+)\\(([^)]*)\\);\\s+// (-?\\d+)");
    private static int wrong = 0;

    public static void main(String[] args) throws Exception {
        String text = Files.readString(Path.of("README.md"));
        int begin = text.indexOf("```java\n");
        int end = text.indexOf("```", begin + 3);
        if (begin < 0 || end < 0) {
            say("README.md shows no calls");
        } else {
            answers(text.substring(begin, end));
        }
        for (Method m : FlowCurves.class.getDeclaredMethods()) {
            if (Modifier.isPublic(m.getModifiers()) && !text.contains("`" + m.getName() + "(")) {
                say("README.md does not tell of " + m.getName() + "()");
            }
        }
        System.out.println("ReadmeTest: " + wrong + " wrong");
        if (wrong != 0) {
            System.exit(1);
        }
    }

    private static void answers(String shown) throws Exception {
        FlowCurves x = new FlowCurves();
        int calls = 0;
        for (String line : shown.split("\n")) {
            Matcher call = CALL.matcher(line);
            if (call.find()) {
                calls++;
                long got = answer(x, call.group(1), call.group(2).isEmpty() ? new String[0] : call.group(2).split(", "));
                if (got != Long.parseLong(call.group(3))) {
                    say(line + " answered " + got);
                }
            } else if (line.startsWith("x.")) {
                say("no answer is told of " + line);
            }
        }
        if (calls == 0) {
            say("README.md shows no calls");
        }
    }

    private static long answer(FlowCurves x, String name, String[] figures) throws Exception {
        for (Method m : FlowCurves.class.getDeclaredMethods()) {
            if (Modifier.isPublic(m.getModifiers()) && m.getName().equals(name) && m.getParameterCount() == figures.length) {
                Object[] arguments = new Object[figures.length];
                for (int i = 0; i < figures.length; i++) {
                    if (m.getParameterTypes()[i] == long.class) {
                        arguments[i] = Long.valueOf(figures[i]);
                    } else {
                        arguments[i] = Integer.valueOf(figures[i]);
                    }
                }
                return ((Number) m.invoke(x, arguments)).longValue();
            }
        }
        say("there is no call " + name + " with " + figures.length + " arguments");
        return 0;
    }

    private static void say(String what) {
        wrong++;
        System.out.println(what);
    }
}
