import java.io.File;
import java.lang.reflect.Method;
import java.lang.reflect.Modifier;
import java.nio.file.Files;
import java.nio.file.Path;
import java.util.List;
import java.util.Map;
import java.util.TreeMap;
import java.util.regex.Matcher;
import java.util.regex.Pattern;

/** README.md tells how the class is used: its calls answer what it says, and it leaves out no call and no finding. */
public final class ReadmeTest {
    private static final Pattern MADE = Pattern.compile("HeldDoor (\\w+) = new HeldDoor\\(\\);");
    private static final Pattern CALL = Pattern.compile("(?:int (\\w+) = )?(\\w+)\\.(\\w+)\\(([^)]*)\\); +// (-?\\d+)(:.*)?");
    private static final String[] FINDINGS = {"BEYOND", "FULL", "KIND", "NONE", "STATE", "MISSING", "SIZE"};

    private static final Due due = new Due("ReadmeTest");

    public static void main(String[] args) throws Exception {
        List<String> lines = Files.readAllLines(Path.of("README.md"));
        due.isTrue("calls with answers stand in it", callAll(lines) > 20);
        morning(lines);
        tables(String.join("\n", lines));
        tests(String.join("\n", lines));
        due.end();
    }

    /** Every line between ```java and ``` makes an object or is a call with its answer. */
    private static int callAll(List<String> lines) throws Exception {
        Map<String, HeldDoor> objects = new TreeMap<>();
        Map<String, Long> names = new TreeMap<>();
        boolean isJava = false;
        int calls = 0;
        for (String line : lines) {
            Matcher made = MADE.matcher(line);
            Matcher call = CALL.matcher(line);
            if (line.startsWith("```")) {
                isJava = line.equals("```java");
            } else if (isJava && made.matches()) {
                objects.put(made.group(1), new HeldDoor());
            } else if (isJava) {
                due.isTrue("'" + line + "' is a call with its answer", call.matches());
                if (call.matches()) {
                    long answer = answerOf(objects.get(call.group(2)), call.group(3), call.group(4), names);
                    due.is(line, answer, Long.parseLong(call.group(5)));
                    if (call.group(1) != null) {
                        names.put(call.group(1), answer);
                    }
                    calls++;
                }
            }
        }
        return calls;
    }

    private static long answerOf(HeldDoor x, String name, String values, Map<String, Long> names) throws Exception {
        String[] words = values.isEmpty() ? new String[0] : values.split(", *");
        for (Method m : HeldDoor.class.getDeclaredMethods()) {
            if (Modifier.isPublic(m.getModifiers()) && m.getName().equals(name) && m.getParameterCount() == words.length) {
                Object[] given = new Object[words.length];
                for (int i = 0; i < words.length; i++) {
                    long v = names.containsKey(words[i]) ? names.get(words[i]) : Long.parseLong(words[i]);
                    if (m.getParameterTypes()[i] == long.class) {
                        given[i] = v;
                    } else {
                        given[i] = (int) v;
                    }
                }
                return ((Number) m.invoke(x, given)).longValue();
            }
        }
        due.isTrue(name + " with " + words.length + " is a call", false);
        return 0;
    }

    /** What stands between ```text and ``` is a morning. */
    private static void morning(List<String> lines) {
        int at = lines.indexOf("```text");
        due.isTrue("a morning stands in it", at >= 0);
        HeldDoor x = new HeldDoor();
        due.is("items of the morning", at < 0 ? 0 : Due.morning(x, lines.get(at + 1)), 4);
        due.is("people", x.count(0), 2);
        due.is("without a badge", x.count(2), 1);
        due.is("loads", x.count(3), 2);
        due.is("care", x.now(1), 50);
        due.is("open", x.now(2), 5);
    }

    private static void tables(String text) {
        for (Method m : HeldDoor.class.getDeclaredMethods()) {
            if (Modifier.isPublic(m.getModifiers())) {
                due.isTrue(m.getName() + " stands in it", text.contains("`" + m.getName() + "`"));
            }
        }
        for (int i = 0; i < FINDINGS.length; i++) {
            String row = "\\| " + (Due.BEYOND - i) + " +\\| " + FINDINGS[i] + " +\\| " + i + " +\\|";
            due.isTrue(FINDINGS[i] + " stands in it", Pattern.compile(row).matcher(text).find());
        }
    }

    private static void tests(String text) {
        due.isTrue("how its tests are run stands in it", text.contains("\n.ci/run\n"));
        for (String file : new File("src/test/java").list()) {
            String test = file.replace(".java", "");
            due.isTrue(test + " stands in it", !file.endsWith(".java") || text.contains("`" + test + "`"));
        }
    }
}
