import java.io.IOException;
import java.lang.reflect.Constructor;
import java.lang.reflect.Field;
import java.lang.reflect.Method;
import java.lang.reflect.Modifier;
import java.nio.file.Files;
import java.nio.file.Path;
import java.util.ArrayList;
import java.util.HashSet;
import java.util.List;
import java.util.Set;
import java.util.TreeSet;
import java.util.regex.Matcher;
import java.util.regex.Pattern;

/** The public face, and what of LANGUAGE.md can be seen from the source and from what calls make. */
public final class FaceTest {
    private static final Check CHECK = new Check("FaceTest");
    private static final String[] FACE = {
        "int feed(int,int,int,int,int)",
        "int kitchen(int) throws IllegalArgumentException",
        "int fault()",
        "int count(int) throws NoSuchElementException",
        "int kettle(int,int) throws NoSuchElementException",
        "int stove(int,int) throws NoSuchElementException",
        "int dish(int,int) throws NoSuchElementException",
        "int minutes(int)",
        "boolean put(int,int) throws NoSuchElementException",
        "int lift(int) throws NoSuchElementException",
        "int pour(int,int) throws NoSuchElementException",
        "int scrape(int) throws NoSuchElementException",
        "int undo()",
        "int then(int,int) throws NoSuchElementException,IllegalArgumentException",
        "int sung(int) throws NoSuchElementException",
        "int done(int) throws NoSuchElementException",
        "int fugue(int) throws IllegalArgumentException",
        "int quiet()",
        "int loudest(int) throws NoSuchElementException",
        "int dry(int) throws NoSuchElementException",
        "int soonest(int,int) throws NoSuchElementException",
        "int tuned(int,int) throws NoSuchElementException,IllegalArgumentException",
        "int chord(int) throws NoSuchElementException",
        "int burner(int,int) throws NoSuchElementException,IllegalArgumentException",
        "int together(int,int,int,int) throws NoSuchElementException,IllegalArgumentException",
        "int hear(int,int)",
        "int chalk(int) throws NoSuchElementException",
        "int listen(int) throws NoSuchElementException",
        "void forget()",
        "int game(int,int,int) throws NoSuchElementException,IllegalArgumentException",
        "int evening(int,int,int) throws NoSuchElementException,IllegalArgumentException",
        "void image()",
        "boolean restore()",
    };

    public static void main(String[] args) throws IOException {
        face();
        source();
        room();
        CHECK.end();
    }

    private static String told(Method m) {
        StringBuilder text = new StringBuilder(m.getReturnType().getSimpleName() + " " + m.getName() + "(");
        List<String> names = new ArrayList<>();
        for (Class<?> c : m.getParameterTypes()) {
            names.add(c.getSimpleName());
        }
        text.append(String.join(",", names)).append(")");
        names.clear();
        for (Class<?> c : m.getExceptionTypes()) {
            names.add(c.getSimpleName());
        }
        return text + (names.isEmpty() ? "" : " throws " + String.join(",", names));
    }

    private static void face() {
        Class<?> c = KettleChoir.class;
        CHECK.same("the class", c.getModifiers(), Modifier.PUBLIC | Modifier.FINAL);
        Set<String> open = new TreeSet<>();
        Set<String> openNames = new HashSet<>();
        for (Method m : c.getDeclaredMethods()) {
            if (!Modifier.isPrivate(m.getModifiers())) {
                open.add((m.getModifiers() == Modifier.PUBLIC ? "" : "not just public: ") + told(m));
                openNames.add(m.getName());
            }
        }
        Set<String> due = new TreeSet<>(List.of(FACE));
        CHECK.holds("the methods are those of the face: " + open, open.equals(due));
        for (Field f : c.getDeclaredFields()) {
            boolean constant = f.getName().equals("NONE");
            int modifiers = Modifier.PUBLIC | Modifier.STATIC | Modifier.FINAL;
            CHECK.holds("field " + f.getName(),
                    constant ? f.getModifiers() == modifiers : Modifier.isPrivate(f.getModifiers()));
        }
        for (Constructor<?> made : c.getDeclaredConstructors()) {
            CHECK.same("the constructor", made.getModifiers(), Modifier.PUBLIC);
            CHECK.same("its parameters", made.getParameterCount(), 0);
        }
        CHECK.holds("classes inside", c.getDeclaredClasses().length <= 12);
        for (Class<?> inside : c.getDeclaredClasses()) {
            CHECK.holds(inside + " is static", Modifier.isStatic(inside.getModifiers()));
            CHECK.holds(inside + " has some twenty fields", instanceFields(inside) <= 20);
            for (Method m : inside.getDeclaredMethods()) {
                CHECK.holds("a name of the face: " + m, !openNames.contains(m.getName()));
                CHECK.holds("at most seven parameters: " + m, m.getParameterCount() <= 7);
            }
        }
        for (Method m : c.getDeclaredMethods()) {
            CHECK.holds("a name of the face: " + m,
                    !Modifier.isPrivate(m.getModifiers()) || !openNames.contains(m.getName()));
        }
        CHECK.holds("some twenty fields", instanceFields(c) <= 20);
    }

    private static int instanceFields(Class<?> c) {
        int many = 0;
        for (Field f : c.getDeclaredFields()) {
            many += Modifier.isStatic(f.getModifiers()) ? 0 : 1;
        }
        return many;
    }

    private static void source() throws IOException {
        String source = Files.readString(Path.of("src/main/java/KettleChoir.java"));
        String code = source.replaceAll("/\\*\\*?[^*]*\\*/", "").replaceAll("//[^\n]*", "");
        for (String word : new String[] {"catch", "try", "finally", "synchronized", "assert", "lambda", "->", "::",
            "package", "static \\{", "Exact\\(", "double", "float", "System\\.(?!arraycopy)", "Object", "protected"}) {
            Matcher found = Pattern.compile("(?<![A-Za-z])" + word).matcher(code);
            CHECK.holds("no " + word, !found.find());
        }
        Matcher imports = Pattern.compile("import ([^;]*);").matcher(code);
        while (imports.find()) {
            CHECK.holds(imports.group(), Set.of("java.util.Arrays", "java.util.NoSuchElementException")
                    .contains(imports.group(1)));
        }
        Matcher thrown = Pattern.compile("throw ([^;]*);").matcher(code);
        while (thrown.find()) {
            CHECK.holds(thrown.group(),
                    thrown.group(1).matches("new (NoSuchElement|IllegalArgument)Exception\\(\"[^\"]*\"\\)"));
        }
        CHECK.holds("plain signs alone", source.chars().allMatch(c -> c == '\n' || c >= 32 && c < 127));
        int since = 0;
        int line = 0;
        for (String text : source.split("\n")) {
            line++;
            since = text.matches(" {4}( {4})?[^ ].*\\(.*\\{") ? line : since;
            CHECK.holds("line " + line + " is short", text.length() <= 120);
            CHECK.holds("the method at line " + since + " is short",
                    !text.matches(" {4}( {4})?\\}") || line - since <= 60);
        }
    }

    /** The dearest calls, 512 of each, make hardly anything: rows are made once. */
    private static void room() {
        StringBuilder text = new StringBuilder();
        for (int k = 0; k < 8; k++) {
            text.append("tin ").append(5 + k).append(" 40 9 0;");
        }
        text.append("stove 40;stove 30;stove 20;dish 3;dish 24 23 22;lifts 9<sung;");
        KettleChoir choir = CHECK.choir(text.toString());
        com.sun.management.ThreadMXBean threads =
                (com.sun.management.ThreadMXBean) java.lang.management.ManagementFactory.getThreadMXBean();
        long id = Thread.currentThread().getId();
        choir.image();
        choir.listen(0);
        long from = threads.getThreadAllocatedBytes(id);
        for (int i = 0; i < 512; i++) {
            choir.pour(0, 9 + i % 2);
            choir.listen(0);
            choir.chalk(1);
            choir.chord(1);
            choir.evening(i, 90, 2);
            choir.then(0, 120);
            choir.image();
            choir.restore();
            if (i % 16 == 0) {
                choir.soonest(0, 0);
            }
        }
        long made = threads.getThreadAllocatedBytes(id) - from;
        CHECK.holds("bytes that calls made: " + made, made < 100000);
        long before = threads.getThreadAllocatedBytes(id);
        new KettleChoir();
        long each = threads.getThreadAllocatedBytes(id) - before;
        CHECK.holds("bytes of a new object: " + each, each < 40000);
    }
}
