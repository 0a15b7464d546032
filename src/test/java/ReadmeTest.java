import java.lang.reflect.Method;
import java.lang.reflect.Modifier;
import java.nio.file.Files;
import java.nio.file.Path;
import java.util.regex.Matcher;
import java.util.regex.Pattern;

/** README.md: its example answers as it says there, and every call of the face is told. */
public final class ReadmeTest {
    private static final Pattern TEXT = Pattern.compile("for \\(char c : \"([^\"]*)\"");
    /** A call on x of numbers, with the answer behind it. */
    private static final Pattern CALL = Pattern.compile("x\\.(\\w+)\\(([0-9, ]*)\\);\\s*// (-?[0-9]+)");

    public static void main(String[] args) throws Exception {
        String readme = Files.readString(Path.of("README.md"));
        Matcher text = TEXT.matcher(readme);
        Check.same("the example has a sea", text.find() ? 1 : 0, 1);
        ThumbSea x = Check.page(text.group(1));
        int told = 0;
        for (Matcher call = CALL.matcher(readme); call.find(); told++) {
            Check.same("README: " + call.group(), answer(x, call.group(1), call.group(2)),
                Long.parseLong(call.group(3)));
        }
        Check.same("calls of the example", told, 8);
        for (Method method : ThumbSea.class.getDeclaredMethods()) {
            if (Modifier.isPublic(method.getModifiers())) {
                Check.same("README tells " + method.getName(),
                    readme.contains("`" + method.getName() + "(") ? 1 : 0, 1);
            }
        }
        Check.end();
    }

    private static long answer(ThumbSea x, String name, String numbers) throws Exception {
        String[] words = numbers.isEmpty() ? new String[0] : numbers.split(", ");
        Class<?>[] types = new Class<?>[words.length];
        Object[] arguments = new Object[words.length];
        for (int i = 0; i < words.length; i++) {
            types[i] = int.class;
            arguments[i] = Integer.valueOf(words[i]);
        }
        return ((Number) ThumbSea.class.getMethod(name, types).invoke(x, arguments)).longValue();
    }
}
