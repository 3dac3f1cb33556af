import java.io.IOException;
import java.nio.file.Files;
import java.nio.file.Path;
import java.util.ArrayDeque;
import java.util.Arrays;
import java.util.Deque;
import java.util.HashMap;
import java.util.HashSet;
import java.util.List;
import java.util.Map;
import java.util.Set;
import java.util.TreeSet;
import java.util.regex.Matcher;
import java.util.regex.Pattern;

/** LANGUAGE.md, rule by rule, as far as it can be seen from what is compiled; FaceTest has rule 1. */
public final class LanguageTest {
    private static final Check CHECK = new Check("LanguageTest");
    private static final Bytecode CODE = new Bytecode(KettleChoir.class);
    private static final Set<String> LIBRARY = Set.of(
            "java/lang/Object.<init>()V",
            "java/lang/Math.max(II)I", "java/lang/Math.min(II)I", "java/lang/Math.abs(I)I",
            "java/lang/Integer.bitCount(I)I",
            "java/lang/String.length()I", "java/lang/String.charAt(I)C",
            "java/lang/System.arraycopy(Ljava/lang/Object;ILjava/lang/Object;II)V",
            "java/util/Arrays.fill([II)V",
            "java/util/NoSuchElementException.<init>(Ljava/lang/String;)V",
            "java/lang/IllegalArgumentException.<init>(Ljava/lang/String;)V");
    private static final Set<String> EXCEPTIONS =
            Set.of("java/util/NoSuchElementException", "java/lang/IllegalArgumentException");
    private static final String EXPR = "expr both test sum product part";

    public static void main(String[] args) throws IOException {
        noDynamicCalls();
        types();
        library();
        statics();
        exceptions();
        recursion();
        loops();
        depth();
        whatIsMade();
        CHECK.end();
    }

    private static void noDynamicCalls() {
        CHECK.says("no lambda, no method reference .. joining texts by StringBuilder (not by +)");
        CHECK.holds("the methods are read", CODE.methods.size() > 80);
        CODE.methods.forEach((name, m) -> CHECK.holds(name + " calls by name", !m.isDynamic));
    }

    private static void types() {
        CHECK.says("3. Types");
        String own = "(LKettleChoir\\$[A-Za-z]+;|LKettleChoir;)";
        String fits = "\\[?[IJSBCZ]|\\[\\[[IJ]|\\[?" + own + "|Ljava/lang/String;|V";
        for (String type : CODE.fieldTypes) {
            CHECK.holds("the type of a field: " + type, type.matches(fits));
        }
        CODE.methods.forEach((name, m) -> {
            CHECK.holds("the types of " + name, m.type.matches("\\((" + fits + ")*\\)(" + fits + ")"));
            for (String made : m.made) {
                CHECK.holds(name + " makes " + made, made.matches("\\[[IJB]|KettleChoir\\$[A-Za-z]+") || EXCEPTIONS.contains(made));
            }
        });
    }

    private static void library() {
        CHECK.says("4. The library: only what stands here. .. 13. No clock, no randomness");
        CODE.methods.forEach((name, m) -> {
            for (String call : m.calls) {
                CHECK.holds(name + " calls " + call, isOwn(call) || LIBRARY.contains(call));
            }
        });
    }

    private static boolean isOwn(String call) {
        return CODE.methods.containsKey(call);
    }

    private static void statics() {
        CHECK.says("5. Static fields are final: .. no static initialiser block.");
        CHECK.same("statics that are not final: " + CODE.openStatics, CODE.openStatics.size(), 0);
        CODE.methods.forEach((name, m) -> CHECK.holds(name + " is no initialiser", !m.name.equals("<clinit>")));
    }

    private static void exceptions() {
        CHECK.says("6. Exceptions: .. throw new E(\"a written text\") .. no throw in a constructor. No synchronized");
        CODE.methods.forEach((name, m) -> {
            long made = m.made.stream().filter(EXCEPTIONS::contains).count();
            CHECK.same(name + " throws what it makes alone", m.throwing, made);
            CHECK.holds(name + " throws nothing as a constructor", m.throwing == 0 || !m.name.equals("<init>"));
            CHECK.same(name + " catches nothing", m.handlers, 0);
            CHECK.holds(name + " locks nothing", !m.locks);
        });
    }

    private static void recursion() {
        CHECK.says("8. Recursion: .. the depth is carried as an argument");
        Set<String> found = new TreeSet<>();
        for (String name : CODE.methods.keySet()) {
            if (reaches(name, name)) {
                found.add(CODE.methods.get(name).name);
                CHECK.same("what recursion carries: " + name, CODE.methods.get(name).type.equals("(I)V") ? 1 : 0, 1);
            }
        }
        CHECK.holds("EXPRs alone: " + found, found.equals(new TreeSet<>(Arrays.asList(EXPR.split(" ")))));
    }

    /** Whether a method comes, by its calls, to this one. */
    private static boolean reaches(String from, String to) {
        Set<String> seen = new HashSet<>();
        Deque<String> next = new ArrayDeque<>(CODE.methods.get(from).calls);
        while (!next.isEmpty()) {
            String name = next.remove();
            if (name.equals(to)) {
                return true;
            }
            if (isOwn(name) && seen.add(name)) {
                next.addAll(CODE.methods.get(name).calls);
            }
        }
        return false;
    }

    private static void loops() throws IOException {
        CHECK.says("9. Every loop has an end that can be seen from its own lines");
        String source = Files.readString(Path.of("src/main/java/KettleChoir.java"));
        Matcher loop = Pattern.compile("\\b(for|while|do) [({](.*)").matcher(source);
        int loops = 0;
        while (loop.find()) {
            loops++;
            CHECK.holds("the end of " + loop.group(), loop.group(2).matches(".*[a-z.] (<|<=|>=) [A-Za-z0-9].*"));
        }
        CHECK.holds("loops are found", loops > 40);
    }

    private static void depth() {
        CHECK.says("11. .. calls that are no recursion go at most eight deep");
        Map<String, Integer> depths = new HashMap<>();
        int deepest = 0;
        for (String name : CODE.methods.keySet()) {
            deepest = Math.max(deepest, depth(name, depths));
        }
        CHECK.same("the deepest calls, library and all", deepest, 8);
    }

    /** How deep a method's calls go, itself too; what an EXPR's methods call one another counts once. */
    private static int depth(String name, Map<String, Integer> depths) {
        if (!isOwn(name)) {
            return 1;
        }
        Integer known = depths.get(name);
        if (known != null) {
            return known;
        }
        int deepest = 0;
        for (String call : group(name)) {
            deepest = Math.max(deepest, depth(call, depths));
        }
        depths.put(name, deepest + 1);
        return deepest + 1;
    }

    /** What a method calls, or what all that are in recursion with it call of others. */
    private static Set<String> group(String name) {
        Set<String> calls = new HashSet<>();
        Set<String> members = new HashSet<>(List.of(name));
        if (reaches(name, name)) {
            for (String other : CODE.methods.keySet()) {
                if (reaches(name, other) && reaches(other, name)) {
                    members.add(other);
                }
            }
        }
        for (String member : members) {
            calls.addAll(CODE.methods.get(member).calls);
        }
        calls.removeAll(members);
        return calls;
    }

    private static void whatIsMade() {
        CHECK.says("12. .. What a run makes is counted .. keep it small");
        Set<String> made = new TreeSet<>();
        CODE.methods.forEach((name, m) -> {
            for (String what : m.made) {
                if (!m.name.equals("<init>") && !EXCEPTIONS.contains(what)) {
                    made.add(m.name + " " + what);
                }
            }
        });
        CHECK.holds("what is made, once each, outside constructors: " + made,
                made.equals(new TreeSet<>(List.of("collect [J", "image KettleChoir$Image"))));
    }
}
