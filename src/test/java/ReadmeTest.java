import java.io.IOException;
import java.lang.reflect.InvocationTargetException;
import java.lang.reflect.Method;
import java.nio.file.Files;
import java.nio.file.Path;
import java.util.regex.Matcher;
import java.util.regex.Pattern;

/** The evening that README.md tells: each of its calls answers what stands behind it. */
public final class ReadmeTest {
    private static final Check CHECK = new Check("ReadmeTest");
    private static final Pattern TEXT = Pattern.compile("String text = \"([^\"]*)\";\nread\\(choir, text\\); *// (\\d+)");
    private static final Pattern CALL = Pattern.compile("\nchoir\\.([a-z]+)\\(([-0-9, ]*)\\); *// ([^:\n]*)");

    public static void main(String[] args) throws IOException {
        String readme = Files.readString(Path.of("README.md"));
        KettleChoir choir = new KettleChoir();
        Matcher text = TEXT.matcher(readme);
        CHECK.holds("a text is told", text.find());
        CHECK.same("its fault", Check.read(choir, text.group(1)), Integer.parseInt(text.group(2)));
        Matcher call = CALL.matcher(readme);
        int calls = 0;
        while (call.find()) {
            calls++;
            String answer = answer(choir, call.group(1), call.group(2));
            CHECK.holds(call.group().trim() + " .. answers " + answer, answer.isEmpty() || answer.equals(call.group(3)));
        }
        CHECK.holds("the evening is told", calls > 30);
        CHECK.end();
    }

    private static String answer(KettleChoir choir, String name, String told) {
        String[] numbers = told.isEmpty() ? new String[0] : told.split(", ");
        Object[] boxed = new Object[numbers.length];
        for (int i = 0; i < numbers.length; i++) {
            boxed[i] = Integer.valueOf(numbers[i]);
        }
        for (Method method : KettleChoir.class.getMethods()) {
            if (method.getName().equals(name)) {
                try {
                    Object answer = method.invoke(choir, boxed);
                    return answer == null ? "" : answer.equals(KettleChoir.NONE) ? "NONE" : answer.toString();
                } catch (InvocationTargetException e) {
                    return e.getCause().getClass().getSimpleName();
                } catch (IllegalAccessException e) {
                    return e.toString();
                }
            }
        }
        return "no such method";
    }
}
