import java.io.IOException;
import java.lang.reflect.Constructor;
import java.lang.reflect.Field;
import java.lang.reflect.Method;
import java.lang.reflect.Modifier;
import java.nio.file.Files;
import java.nio.file.Path;
import java.util.ArrayList;
import java.util.Arrays;
import java.util.List;
import java.util.TreeSet;
import java.util.regex.Matcher;
import java.util.regex.Pattern;

/** The public face of the document and no more, and those rules of LANGUAGE.md that a text can be searched for. */
public final class FaceTest {
    private static final String FACE = "row(int,int,int) set(int,int,long) copy(int,int,int,int,int) element(int,int) "
            + "holds(int) show(int,int) says(int,int) person(int,int,int) give(int,int,int) tell(int,int) thaw() "
            + "feed(int) wipe() country() personOf(int,int) speaks(int) coldest() speaking() isSo() rank(int) "
            + "when(int) ahead(int,int) later(int,int) feeds(int,int) warm(int) out(int) prides(int,int,int) "
            + "kinds(int,int,int) airs(int,int) clash(int,int) orders(int,int) next(int,int) mayBe(int,int) "
            + "wrongBowls(int,int) byTurns(int) odds(int,int) warmest() brandyFor(int) fallFor(int) holdsOut(int) "
            + "toughest(int) shivering() lead() quiet() second(int) gap(int) bites(int) all(int) ofKind(int) "
            + "judge(int,int) days(int) drawn(int) seed(int) image() back() status(int)";
    private static int wrong = 0;

    private static void check(boolean holds, String what) {
        if (!holds) {
            wrong++;
            System.out.println(what);
        }
    }

    public static void main(String[] args) throws IOException {
        face();
        names();
        constructors();
        source();
        sizes();
        System.out.println(wrong == 0 ? "the face is as due" : wrong + " faults of the face");
        if (wrong != 0) {
            System.exit(1);
        }
    }

    private static void face() {
        TreeSet<String> have = new TreeSet<>();
        for (Method m : ColdestSaysSo.class.getDeclaredMethods()) {
            if (m.isSynthetic() || Modifier.isPrivate(m.getModifiers())) {
                continue;
            }
            check(Modifier.isPublic(m.getModifiers()) && !Modifier.isStatic(m.getModifiers()), "not of the face: " + m);
            StringBuilder text = new StringBuilder(m.getName()).append('(');
            for (Class<?> type : m.getParameterTypes()) {
                text.append(text.charAt(text.length() - 1) == '(' ? "" : ",").append(type.getName());
            }
            have.add(text.append(')').toString());
            String answer = m.getName().equals("element") ? "long" : "int";
            check(m.getReturnType().getName().equals(answer), "answers another type: " + m);
        }
        check(have.equals(new TreeSet<>(Arrays.asList(FACE.split(" ")))), "the methods are " + have);
        check(Modifier.isFinal(ColdestSaysSo.class.getModifiers()), "the class is not final");
        check(ColdestSaysSo.NONE == -1, "NONE is not -1");
        for (Field f : ColdestSaysSo.class.getDeclaredFields()) {
            check(Modifier.isPrivate(f.getModifiers()) || f.getName().equals("NONE"), "not of the face: " + f);
            check(!Modifier.isStatic(f.getModifiers()) || Modifier.isFinal(f.getModifiers()), "static state: " + f);
        }
    }

    private static void names() {
        for (Class<?> inner : ColdestSaysSo.class.getDeclaredClasses()) {
            check(Modifier.isStatic(inner.getModifiers()), "not static: " + inner);
            for (Method m : inner.getDeclaredMethods()) {
                check(!(" " + FACE).contains(" " + m.getName() + "("), "bears the name of a public one: " + m);
            }
        }
        for (Method m : ColdestSaysSo.class.getDeclaredMethods()) {
            check(m.getParameterCount() <= 7, "more than seven parameters: " + m);
            if (Modifier.isPrivate(m.getModifiers())) {
                check(!(" " + FACE).contains(" " + m.getName() + "("), "bears the name of a public one: " + m);
            }
        }
    }

    private static void constructors() {
        Constructor<?>[] all = ColdestSaysSo.class.getDeclaredConstructors();
        check(all.length == 1 && Modifier.isPublic(all[0].getModifiers()) && all[0].getParameterCount() == 0,
                "not the one constructor");
    }

    private static void source() throws IOException {
        String text = Files.readString(Path.of("src/main/java/ColdestSaysSo.java"));
        String code = text.replaceAll("(?s)/\\*.*?\\*/", "").replaceAll("//[^\n]*", "").replaceAll("\"[^\"]*\"", "\"\"");
        String[] words = {"throw", "try", "catch", "synchronized", "assert", "var", "package", "throws", "transient",
            "volatile", "native"};
        for (String word : words) {
            check(!Pattern.compile("\\b" + word + "\\b").matcher(code).find(), "rule 6: " + word);
        }
        check(!code.contains("->") && !code.contains("::"), "rule 2: a lambda or a method reference");
        List<String> outside = new ArrayList<>();
        Matcher calls = Pattern.compile("\\b(Math|Integer|Long|Arrays|System|String|Character)\\.(\\w+)").matcher(code);
        while (calls.find()) {
            if (!Arrays.asList("Math.max", "Math.min", "Integer.bitCount", "Arrays.fill", "System.arraycopy")
                    .contains(calls.group())) {
                outside.add(calls.group());
            }
        }
        check(outside.isEmpty(), "rule 4, look at it: " + outside);
        Matcher imports = Pattern.compile("import ([^;]+);").matcher(code);
        while (imports.find()) {
            check(imports.group(1).equals("java.util.Arrays"), "rule 4: " + imports.group());
        }
        // No call makes an object: new stands in fields and in the constructor alone.
        for (String line : code.split("\n")) {
            boolean ofField = line.contains("private final") || line.contains("shelves[s] = new Shelf();");
            check(!line.contains("new ") || ofField, "rule 12, look at it: " + line.trim());
        }
    }

    /** Rule 11: methods of some sixty lines, some twelve classes, some twenty fields beside constants. */
    private static void sizes() throws IOException {
        List<Class<?>> all = new ArrayList<>(Arrays.asList(ColdestSaysSo.class.getDeclaredClasses()));
        all.add(ColdestSaysSo.class);
        check(all.size() <= 12, "rule 11: " + all.size() + " classes");
        for (Class<?> one : all) {
            int fields = 0;
            for (Field f : one.getDeclaredFields()) {
                fields += Modifier.isStatic(f.getModifiers()) ? 0 : 1;
            }
            check(fields <= 20, "rule 11: " + fields + " fields in " + one);
            for (Method m : one.getDeclaredMethods()) {
                check(m.getParameterCount() <= 7, "rule 11: more than seven parameters: " + m);
            }
        }
        String head = "";
        int began = 0;
        String[] lines = Files.readString(Path.of("src/main/java/ColdestSaysSo.java")).split("\n");
        for (int i = 0; i < lines.length; i++) {
            if (lines[i].matches("( {4}| {8})[a-z][^=;]*\\(.*\\) \\{") && !lines[i].matches(" +(for|while|if|switch) .*")) {
                head = lines[i];
                began = i;
            }
            int in = head.length() - head.stripLeading().length();
            if (in > 0 && lines[i].equals(" ".repeat(in) + "}")) {
                check(i - began <= 60, "rule 11: " + (i - began) + " lines: " + head.trim());
                head = "";
            }
        }
    }
}
