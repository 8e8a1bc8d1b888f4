import java.lang.reflect.Constructor;
import java.lang.reflect.Field;
import java.lang.reflect.Method;
import java.lang.reflect.Modifier;
import java.nio.file.Files;
import java.nio.file.Path;
import java.util.Arrays;
import java.util.List;
import java.util.TreeSet;
import java.util.regex.Matcher;
import java.util.regex.Pattern;

/** The class has the document's whole face and nothing more, and keeps to the rules of LANGUAGE.md that can be seen. */
public final class FaceTest {
    private static final Due due = new Due();
    private static final Path SOURCE = Path.of("src/main/java/DuelLetters.java");
    private static final Path DOCUMENT = Path.of("../shared/DOC.md");

    public static void main(String[] args) throws Exception {
        face();
        faceAsWritten();
        members();
        words(plain(Files.readString(SOURCE)));
        methods(plain(Files.readString(SOURCE)));
        due.end();
    }

    /** Each line of the document's face is there, and there are no more. */
    private static void face() throws Exception {
        String document = Files.readString(DOCUMENT);
        String block = document.substring(document.indexOf("```java"), document.indexOf("```", document.indexOf("```java") + 7));
        TreeSet<String> want = new TreeSet<>();
        Matcher m = Pattern.compile("public int (\\w+)\\(([^)]*)\\);").matcher(block);
        while (m.find()) want.add(m.group(1) + "/" + (m.group(2).isBlank() ? 0 : m.group(2).split(",").length));
        TreeSet<String> got = new TreeSet<>();
        for (Method method : DuelLetters.class.getDeclaredMethods()) {
            if (Modifier.isPrivate(method.getModifiers())) {
                due.isTrue(want.stream().noneMatch(w -> w.startsWith(method.getName() + "/")), "private " + method);
                continue;
            }
            due.isTrue(Modifier.isPublic(method.getModifiers()) && !Modifier.isStatic(method.getModifiers())
                    && method.getReturnType() == int.class, method.toString());
            due.isTrue(Arrays.stream(method.getParameterTypes()).allMatch(t -> t == int.class), method.toString());
            got.add(method.getName() + "/" + method.getParameterCount());
        }
        due.is(43, want.size() + 1, "calls of the document's face, the constructor too");
        due.isTrue(want.equals(got), "methods " + got + " for " + want);
        m = Pattern.compile("([A-Z]+) = (-\\d+)").matcher(block);
        int constants = 0;
        for (; m.find(); constants++) {
            due.is(Integer.parseInt(m.group(2)), DuelLetters.class.getField(m.group(1)).getInt(null), m.group(1));
        }
        due.is(constants, DuelLetters.class.getFields().length, "public fields");
    }

    /** The source has the document's calls word for word and in its order, and ahead of them what the interface says. */
    private static void faceAsWritten() throws Exception {
        String document = Files.readString(DOCUMENT), source = Files.readString(SOURCE);
        int at = 0, seen = 0;
        Matcher m = Pattern.compile("    (public int \\w+\\([^)]*\\));").matcher(document);
        for (; m.find(); seen++) {
            int next = source.indexOf("    " + m.group(1) + " {", at);
            due.isTrue(next >= 0, m.group(1) + " stands behind those ahead of it in the document");
            at = Math.max(at, next);
        }
        due.is(42, seen, "calls of the document's face");
        m = Pattern.compile("Ahead of the calls ([^\n]*) the interface says: (---- [^\n]*)\\.\n").matcher(document);
        for (seen = 0; m.find(); seen++) {
            int from = source.indexOf("    // " + m.group(2) + "\n"), to = source.indexOf("\n    // ----", from + 1);
            due.isTrue(from >= 0 && to > from, m.group(2));
            if (from < 0 || to < from) continue;
            String told = source.substring(from, to);
            StringBuilder calls = new StringBuilder();
            Matcher call = Pattern.compile("    public int (\\w+)\\(").matcher(told);
            while (call.find()) calls.append(calls.length() > 0 ? ", `" : "`").append(call.group(1)).append('`');
            due.isTrue(m.group(1).contentEquals(calls), m.group(2) + ": " + calls + " for " + m.group(1));
        }
        due.is(6, seen, "parts of the interface");
    }

    private static void members() {
        int c = DuelLetters.class.getModifiers();
        due.isTrue(Modifier.isPublic(c) && Modifier.isFinal(c), "public final class");
        Constructor<?>[] made = DuelLetters.class.getDeclaredConstructors();
        due.isTrue(made.length == 1 && Modifier.isPublic(made[0].getModifiers()) && made[0].getParameterCount() == 0, "constructor");
        for (Field f : DuelLetters.class.getDeclaredFields()) {
            due.isTrue(Modifier.isPrivate(f.getModifiers()) || Modifier.isPublic(f.getModifiers()), f.toString());
        }
        int classes = 1;
        for (Class<?> inside : DuelLetters.class.getDeclaredClasses()) {
            classes++;
            int mods = inside.getModifiers();
            due.isTrue(Modifier.isStatic(mods) && !Modifier.isPublic(mods) && !Modifier.isProtected(mods), inside.toString());
            due.is(0, inside.getDeclaredClasses().length, "classes inside " + inside);
            long fields = Arrays.stream(inside.getDeclaredFields()).filter(f -> !Modifier.isStatic(f.getModifiers())).count();
            due.isTrue(fields <= 20, inside + " has " + fields + " fields");
            for (Method method : inside.getDeclaredMethods()) {
                due.isTrue(Arrays.stream(DuelLetters.class.getMethods()).noneMatch(p ->
                        p.getDeclaringClass() == DuelLetters.class && p.getName().equals(method.getName())),
                        method + " bears the name of a public method");
            }
            for (Field f : inside.getDeclaredFields()) staticsAreConstants(f);
        }
        due.isTrue(classes <= 12, classes + " classes");
        for (Field f : DuelLetters.class.getDeclaredFields()) staticsAreConstants(f);
    }

    private static void staticsAreConstants(Field f) {
        if (!Modifier.isStatic(f.getModifiers())) return;
        List<Class<?>> may = List.of(int.class, long.class, boolean.class, char.class, String.class, int[].class, long[].class, char[].class, byte[].class);
        due.isTrue(Modifier.isFinal(f.getModifiers()) && may.contains(f.getType()), f.toString());
    }

    /** The source without comments, and without what its texts and signs say. */
    private static String plain(String source) {
        return source.replaceAll("(?s)/\\*.*?\\*/", " ").replaceAll("//[^\n]*", " ")
                .replaceAll("\"(\\\\.|[^\"\\\\])*\"", "\"\"").replaceAll("'(\\\\.|[^'\\\\])'", "' '");
    }

    private static void words(String source) {
        String[] never = {"throw", "throws", "try", "catch", "finally", "synchronized", "assert", "protected", "package",
            "volatile", "transient", "native", "Object", "Random", "Thread", "var", "yield", "double", "float", "equals",
            "hashCode", "toString", "HashMap", "Optional", "Stream"};
        for (String word : never) {
            due.isTrue(!Pattern.compile("\\b" + word + "\\b").matcher(source).find(), "the word " + word);
        }
        for (String sign : new String[] {"->", "::", "Exact(", "@", "while (true)", "for (;;)"}) {
            due.isTrue(!source.contains(sign), "the sign " + sign);
        }
        due.isTrue(!Pattern.compile("\\bstatic\\s*\\{").matcher(source).find(), "a static initialiser block");
        Matcher m = Pattern.compile("import ([^;]+);").matcher(source);
        while (m.find()) due.isTrue(m.group(1).equals("java.util.Arrays"), "import " + m.group(1));
        m = Pattern.compile("\\b(System|Math|Arrays|Integer|Long)\\.(\\w+)").matcher(source);
        List<String> may = List.of("System.arraycopy", "Math.min", "Math.max", "Math.abs", "Arrays.fill", "Arrays.copyOf");
        while (m.find()) due.isTrue(may.contains(m.group()), m.group());
    }

    private static void methods(String source) {
        String[] lines = source.split("\n");
        int from = -1;
        String closing = "";
        for (int i = 0; i < lines.length; i++) {
            Matcher m = Pattern.compile("^( {4}| {8})(public|private|static|final|[a-zA-Z]).*\\(([^()]*)\\) \\{$").matcher(lines[i]);
            if (from < 0 && m.find() && !lines[i].trim().matches("(if|for|while|switch|do|else)\\b.*")) {
                from = i;
                closing = m.group(1) + "}";
                due.isTrue(m.group(3).split(",").length <= 7, "parameters of " + lines[i].trim());
            } else if (from >= 0 && lines[i].equals(closing)) {
                due.isTrue(i - from < 60, "the length of " + lines[from].trim());
                from = -1;
            }
        }
        due.is(-1, from, "every method was seen to end");
    }
}
