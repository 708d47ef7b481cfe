import java.lang.reflect.Field;
import java.lang.reflect.Member;
import java.lang.reflect.Method;
import java.lang.reflect.Modifier;
import java.nio.charset.StandardCharsets;
import java.nio.file.Files;
import java.nio.file.Path;
import java.util.Arrays;
import java.util.Map;
import java.util.Set;
import java.util.TreeMap;
import java.util.TreeSet;
import java.util.regex.Matcher;
import java.util.regex.Pattern;

/** What of the document's face and of LANGUAGE.md can be seen from the class and its source. */
public final class LanguageTest {
    private static final String FACE = "door(int,int) now(int) person(int,int) of(int,int) set(int,int,int) turn(int,int)"
        + " as(int,int) holds(int,int) asks(int,int) seconds(int) on(int,int,int) loose(int) comes(int) shuts() all()"
        + " care(int) kind(int,int) far(int,int) order(int) take(int) load(int,int) feed(int,int) wipe() morning()"
        + " sheet(int,int,int) write(int,int,long) copy(int,int,int,int,int) lays(int) book(int,int) read(int,int)"
        + " image() undo() tear() count(int) status(int)";

    private static final Pattern HEAD = Pattern.compile("\n( +)[a-zA-Z][a-zA-Z\\[\\] ]*\\([^;{}]*\\) \\{(?=\n)");

    private static final Due due = new Due("LanguageTest");

    public static void main(String[] args) throws Exception {
        face();
        classes();
        source();
        due.end();
    }

    private static void face() {
        int modifiers = HeldDoor.class.getModifiers();
        due.isTrue("the class is public and final", Modifier.isPublic(modifiers) && Modifier.isFinal(modifiers));
        due.is("constructors", HeldDoor.class.getDeclaredConstructors().length, 1);
        due.is("public constructors", HeldDoor.class.getConstructors().length, 1);
        Set<String> open = new TreeSet<>();
        for (Method m : HeldDoor.class.getDeclaredMethods()) {
            if (!Modifier.isPrivate(m.getModifiers())) {
                open.add(signature(m));
                due.isTrue(m + " is public", Modifier.isPublic(m.getModifiers()) && !Modifier.isStatic(m.getModifiers()));
                due.isTrue(m + " answers as the face says", m.getReturnType() == (m.getName().equals("write") ? long.class : int.class));
            }
        }
        due.isTrue("the face is " + open, open.equals(new TreeSet<>(Arrays.asList(FACE.split(" ")))));
        for (Field f : HeldDoor.class.getDeclaredFields()) {
            due.isTrue(f + " is private", Modifier.isPrivate(f.getModifiers()));
        }
    }

    private static String signature(Method m) {
        StringBuilder b = new StringBuilder(m.getName()).append('(');
        for (Class<?> c : m.getParameterTypes()) {
            b.append(b.charAt(b.length() - 1) == '(' ? "" : ",").append(c.getSimpleName());
        }
        return b.append(')').toString();
    }

    private static void classes() {
        Class<?>[] inside = HeldDoor.class.getDeclaredClasses();
        due.isTrue("at most some twelve classes", inside.length < 12);
        oneClass(HeldDoor.class);
        for (Class<?> c : inside) {
            due.isTrue(c + " is static", Modifier.isStatic(c.getModifiers()));
            due.isTrue(c + " is not open", !Modifier.isPublic(c.getModifiers()) && !Modifier.isProtected(c.getModifiers()));
            due.is("classes inside " + c, c.getDeclaredClasses().length, 0);
            oneClass(c);
        }
    }

    private static void oneClass(Class<?> c) {
        Set<String> names = new TreeSet<>();
        for (String s : FACE.split(" ")) {
            names.add(s.substring(0, s.indexOf('(')));
        }
        int fields = 0;
        for (Field f : c.getDeclaredFields()) {
            boolean isStatic = Modifier.isStatic(f.getModifiers());
            due.isTrue(f + " is final, being static", !isStatic || Modifier.isFinal(f.getModifiers()));
            fields += isStatic ? 0 : 1;
        }
        due.isTrue(c + " has at most twenty fields", fields <= 20);
        for (Method m : c.getDeclaredMethods()) {
            due.isTrue(m + " takes at most seven", m.getParameterCount() <= 7);
            due.isTrue(m + " is not made by the compiler", !m.isSynthetic());
            boolean isFace = c == HeldDoor.class && !Modifier.isPrivate(((Member) m).getModifiers());
            due.isTrue(m + " bears no name of the face, or is it", isFace || !names.contains(m.getName()));
        }
    }

    private static void source() throws Exception {
        byte[] bytes = Files.readAllBytes(Path.of("src/main/java/HeldDoor.java"));
        for (byte b : bytes) {
            due.isTrue("signs are 1 to 127", b > 0);
        }
        String text = new String(bytes, StandardCharsets.US_ASCII);
        String code = text.replaceAll("(?s)/\\*.*?\\*/", "").replaceAll("//[^\n]*", "").replaceAll("\"[^\"\n]*\"", "TEXT");
        Matcher m = Pattern.compile("\\b(throw|throws|try|catch|finally|synchronized|assert|import|package|native|volatile"
            + "|float|double|System\\.out|Thread|Random|Exact|hashCode|toString|getClass|protected)\\b|->|::|@|\\+ *TEXT|TEXT *\\+")
            .matcher(code);
        while (m.find()) {
            due.isTrue("'" + m.group() + "' stands in the source", false);
        }
        library(code);
        shortMethods(code);
        shallowCalls(code);
    }

    /** Rule 4: only what stands there; here, only what the class needs of it. */
    private static void library(String code) {
        Set<String> fine = new TreeSet<>(Arrays.asList("Math.min", "Math.max", "Integer.bitCount", "System.arraycopy"));
        for (Class<?> c : HeldDoor.class.getDeclaredClasses()) {
            for (Method m : c.getDeclaredMethods()) {
                fine.add(c.getSimpleName() + "." + m.getName());
            }
        }
        Matcher call = Pattern.compile("\\b[A-Z]\\w*\\.\\w+(?=\\()").matcher(code);
        while (call.find()) {
            due.isTrue("'" + call.group() + "' is of the library", fine.contains(call.group()));
        }
        Matcher made = Pattern.compile("\\bnew +(\\w+)").matcher(code);
        while (made.find()) {
            due.isTrue("'" + made.group() + "' is fine", made.group(1).matches("int|long|byte|Scene|Text|Sheet"));
        }
    }

    /** Rules 8 and 11: no method comes to itself again, and at most eight calls stand open at once. */
    private static void shallowCalls(String code) {
        Map<String, Set<String>> calls = new TreeMap<>();
        Matcher head = HEAD.matcher(code);
        while (head.find()) {
            if (isMethod(head.group())) {
                Set<String> called = calls.computeIfAbsent(nameIn(head.group()), name -> new TreeSet<>());
                Matcher call = Pattern.compile("\\b(\\w+)\\(").matcher(bodyOf(code, head));
                while (call.find()) {
                    called.add(call.group(1));
                }
            }
        }
        for (String name : calls.keySet()) {
            due.isTrue(name + " goes " + depthOf(name, calls, 0) + " deep", depthOf(name, calls, 0) <= 8);
        }
    }

    private static int depthOf(String name, Map<String, Set<String>> calls, int above) {
        int deepest = 0;
        // A method that comes to itself again would never end here: 20 is far above what is fine.
        if (above < 20) {
            for (String called : calls.getOrDefault(name, Set.of())) {
                deepest = Math.max(deepest, depthOf(called, calls, above + 1));
            }
        }
        return calls.containsKey(name) ? deepest + 1 : 0;
    }

    private static boolean isMethod(String head) {
        return !head.trim().matches("(?s)(if|for|while|switch|else)\\b.*");
    }

    private static String nameIn(String head) {
        return head.substring(0, head.indexOf('(')).replaceAll("(?s).*\\s", "");
    }

    private static String bodyOf(String code, Matcher head) {
        return code.substring(head.end(), code.indexOf("\n" + head.group(1) + "}", head.end() - 1) + 1);
    }

    private static void shortMethods(String code) {
        Matcher head = HEAD.matcher(code);
        int heads = 0;
        while (head.find()) {
            if (isMethod(head.group())) {
                heads++;
                due.isTrue("lines of " + head.group().trim(), bodyOf(code, head).lines().count() <= 58);
            }
        }
        due.isTrue("methods found", heads > 60);
    }
}
