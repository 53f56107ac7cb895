import java.io.File;
import java.io.IOException;
import java.lang.reflect.Method;
import java.lang.reflect.Modifier;
import java.nio.file.Files;
import java.nio.file.Path;
import java.util.List;
import java.util.Set;
import java.util.TreeSet;
import java.util.regex.Matcher;
import java.util.regex.Pattern;

/** README.md: the calls of its Java blocks, as they stand there, answer what stands behind them. */
public final class ReadmeTest {
    private static final Pattern MAKES = Pattern.compile("JetTiming x = new JetTiming\\((-?\\d+)\\);(\\s+//.*)?");
    private static final Pattern CALLS = Pattern.compile("x\\.(\\w+)\\((.*)\\);\\s+// (true|false|-?\\d+)(:.*)?");
    private static final int LEAST_BLOCKS = 3;
    private static final int MOST_CALLS = 512;

    public static void main(String[] args) throws IOException, ReflectiveOperationException {
        List<String> lines = Files.readAllLines(Path.of("README.md"));
        callsAnswerAsShown(lines);
        eachMethodIsTold(lines);
        eachTestIsNamed(lines);
        saysTheRulesOfUse(lines);
        Check.end("ReadmeTest");
    }

    private static void callsAnswerAsShown(List<String> lines) throws ReflectiveOperationException {
        Set<String> shown = new TreeSet<>();
        boolean inBlock = false;
        JetTiming x = null;
        int blocks = 0;
        int calls = 0;
        for (int i = 0; i < lines.size(); i++) {
            String line = lines.get(i);
            String where = "README.md line " + (i + 1) + ": " + line;
            if (line.startsWith("```")) {
                inBlock = line.equals("```java");
                blocks += inBlock ? 1 : 0;
                x = null;
                continue;
            }
            if (!inBlock) {
                continue;
            }
            Matcher makes = MAKES.matcher(line);
            Matcher call = CALLS.matcher(line);
            if (makes.matches()) {
                x = new JetTiming(Integer.parseInt(makes.group(1)));
                calls = 0;
            } else if (x != null && call.matches()) {
                shown.add(call.group(1));
                calls++;
                String got = answer(x, call.group(1), call.group(2));
                Check.due(where + " -- the call answers " + got + "; is it so", got.equals(call.group(3)), true);
                Check.due(where + " -- within the calls of one object", calls <= MOST_CALLS, true);
            } else {
                Check.due(where + " -- is an example", false, true);
            }
        }
        Check.due("blocks of examples", blocks >= LEAST_BLOCKS, true);
        for (String name : faceNames()) {
            Check.due("an example shows " + name, shown.contains(name), true);
        }
    }

    private static Set<String> faceNames() {
        Set<String> names = new TreeSet<>();
        for (Method method : JetTiming.class.getDeclaredMethods()) {
            if (Modifier.isPublic(method.getModifiers())) {
                names.add(method.getName());
            }
        }
        return names;
    }

    private static String answer(JetTiming x, String name, String told) throws ReflectiveOperationException {
        String[] texts = told.isEmpty() ? new String[0] : told.split(", ");
        for (Method method : JetTiming.class.getDeclaredMethods()) {
            if (method.getName().equals(name) && method.getParameterCount() == texts.length) {
                Object[] values = new Object[texts.length];
                for (int i = 0; i < texts.length; i++) {
                    values[i] = valueOf(texts[i], method.getParameterTypes()[i]);
                }
                return String.valueOf(method.invoke(x, values));
            }
        }
        return "no such method";
    }

    /** Numbers are read as int ones, since a long one would need an L behind it in Java. */
    private static Object valueOf(String text, Class<?> type) {
        if (type == boolean.class) {
            if (!text.equals("true") && !text.equals("false")) {
                throw new IllegalArgumentException(text + " is no boolean");
            }
            return text.equals("true");
        }
        int value = Integer.parseInt(text);
        if (type == long.class) {
            return (long) value;
        }
        return value;
    }

    /** Each method has a row of its own, with its parameters; run() has a paragraph. */
    private static void eachMethodIsTold(List<String> lines) {
        for (Method method : JetTiming.class.getDeclaredMethods()) {
            if (!Modifier.isPublic(method.getModifiers())) {
                continue;
            }
            int count = method.getParameterCount();
            int rows = 0;
            for (String line : lines) {
                String start = "`" + method.getName() + "(";
                int at = line.startsWith("| ") ? 2 : 0;
                if (line.startsWith(start, at)) {
                    String told = line.substring(at + start.length(), line.indexOf(")`", at));
                    int names = told.isEmpty() ? 0 : told.split(", ").length;
                    rows += names == count ? 1 : 0;
                }
            }
            Check.due("README.md tells of " + method.getName() + ", times", rows, 1);
        }
    }

    private static void eachTestIsNamed(List<String> lines) {
        String[] files = new File("src/test/java").list();
        Check.due("there are tests", files != null && files.length > 0, true);
        if (files == null) {
            return;
        }
        for (String file : files) {
            String name = file.replace(".java", "");
            boolean isTest = name.endsWith("Test");
            boolean named = false;
            for (String line : lines) {
                named |= isTest ? line.startsWith("| " + name + " |") : line.matches(".*\\b" + name + "\\b.*");
            }
            Check.due("README.md names " + name, named, true);
        }
    }

    private static void saysTheRulesOfUse(List<String> lines) {
        String all = String.join(" ", lines);
        for (String said : new String[] {"new JetTiming(jets)", "at most 512 calls", "changes nothing",
                "stays until the next one", ".ci/run"}) {
            Check.due("README.md says: " + said, all.contains(said), true);
        }
    }
}
