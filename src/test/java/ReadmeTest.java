import java.io.IOException;
import java.lang.reflect.InvocationTargetException;
import java.lang.reflect.Method;
import java.lang.reflect.Modifier;
import java.nio.file.Files;
import java.nio.file.Path;
import java.util.regex.Matcher;
import java.util.regex.Pattern;

/** README.md: each call of its examples answers what stands behind it, and each call of the face is named. */
public final class ReadmeTest {
    private static final Pattern MADE = Pattern.compile("ColdestSaysSo x = new ColdestSaysSo\\(\\);");
    private static final Pattern FED = Pattern.compile("for \\(char c : \"([^\"]*)\"\\.toCharArray\\(\\)\\) x\\.feed\\(c\\);");
    private static final Pattern ASKED = Pattern.compile("x\\.(\\w+)\\(([^)]*)\\);\\s*// (-?\\d+)(:.*)?");
    private static int wrong = 0;
    private static int asked = 0;

    public static void main(String[] args) throws IOException, ReflectiveOperationException {
        String text = Files.readString(Path.of("README.md"));
        Matcher blocks = Pattern.compile("(?s)```java\n(.*?)```").matcher(text);
        while (blocks.find()) {
            example(blocks.group(1));
        }
        if (asked < 30) {
            fail("README.md has only " + asked + " calls in its examples");
        }
        for (Method m : ColdestSaysSo.class.getDeclaredMethods()) {
            if (Modifier.isPublic(m.getModifiers()) && !text.contains("`" + m.getName() + "`")) {
                fail("README.md doesn't name " + m.getName());
            }
        }
        System.out.println(wrong == 0 ? asked + " calls of README.md are as due" : wrong + " faults of README.md");
        if (wrong != 0) {
            System.exit(1);
        }
    }

    private static void fail(String what) {
        wrong++;
        System.out.println(what);
    }

    private static void example(String block) throws ReflectiveOperationException {
        ColdestSaysSo x = null;
        for (String line : block.split("\n")) {
            Matcher fed = FED.matcher(line);
            Matcher call = ASKED.matcher(line);
            if (MADE.matcher(line).matches()) {
                x = new ColdestSaysSo();
            } else if (x != null && fed.matches()) {
                for (char c : fed.group(1).toCharArray()) {
                    x.feed(c);
                }
            } else if (x != null && call.matches()) {
                ask(x, line, call);
            } else {
                fail("no line that can be tried: " + line);
            }
        }
    }

    private static void ask(ColdestSaysSo x, String line, Matcher call) throws ReflectiveOperationException {
        String[] given = call.group(2).isEmpty() ? new String[0] : call.group(2).split(", ");
        for (Method m : ColdestSaysSo.class.getDeclaredMethods()) {
            if (!m.getName().equals(call.group(1)) || !Modifier.isPublic(m.getModifiers())
                    || m.getParameterCount() != given.length) {
                continue;
            }
            Object[] chosen = new Object[given.length];
            for (int i = 0; i < given.length; i++) {
                chosen[i] = m.getParameterTypes()[i] == long.class ? (Object) Long.valueOf(given[i]) : Integer.valueOf(given[i]);
            }
            asked++;
            answered(line, call, x, m, chosen);
            return;
        }
        fail("no such call: " + line);
    }

    private static void answered(String line, Matcher call, ColdestSaysSo x, Method m, Object[] chosen)
            throws IllegalAccessException {
        try {
            long got = ((Number) m.invoke(x, chosen)).longValue();
            if (got != Long.parseLong(call.group(3))) {
                fail(line + " -- answered " + got);
            }
        } catch (InvocationTargetException thrown) {
            fail(line + " -- throws " + thrown.getCause());
        }
    }
}
