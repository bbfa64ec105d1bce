import java.lang.reflect.Method;
import java.lang.reflect.Modifier;
import java.nio.file.Files;
import java.nio.file.Path;
import java.util.regex.Matcher;
import java.util.regex.Pattern;

/** README.md: the example's answers are those that stand behind its calls, and each call of the face is listed. */
public final class ReadmeTest {
    private static final Check CHECK = new Check("ReadmeTest");

    public static void main(String[] args) throws Exception {
        String readme = Files.readString(Path.of("README.md"));
        String doc = Files.readString(Path.of("../shared/DOC.md"));
        example(readme);
        list(readme, doc);
        CHECK.close();
    }

    private static void example(String readme) throws Exception {
        Matcher text = Pattern.compile("= \"([^\"]*)\"\\.getBytes").matcher(readme);
        CHECK.due("the example has a text", text.find() ? 1 : 0, 1);
        SixStroke x = new SixStroke();
        Check.feed(x, text.group(1));
        Matcher line = Pattern.compile("(?m)^x\\.(\\w+)\\(([-\\d, ]*)\\); +// (-?\\d+)").matcher(readme);
        int many = 0;
        while (line.find()) {
            CHECK.due(line.group(), answer(x, line.group(1), line.group(2)), Long.parseLong(line.group(3)));
            many++;
        }
        CHECK.due("calls of the example", many, 17);
    }

    private static long answer(SixStroke x, String name, String told) throws Exception {
        String[] numbers = told.isEmpty() ? new String[0] : told.split(", *");
        Object[] given = new Object[numbers.length];
        for (int i = 0; i < given.length; i++) {
            given[i] = Integer.parseInt(numbers[i]);
        }
        for (Method m : SixStroke.class.getDeclaredMethods()) {
            if (m.getName().equals(name) && Modifier.isPublic(m.getModifiers())) {
                return ((Number) m.invoke(x, given)).longValue();
            }
        }
        throw new IllegalArgumentException(name);
    }

    /** Each call of the face stands in the list with the number of its promise. */
    private static void list(String readme, String doc) {
        Matcher promise = Pattern.compile("(?m)^## Promise (\\d+): (\\w+)$").matcher(doc);
        int many = 0;
        while (promise.find()) {
            String entry = promise.group(2) + " (" + promise.group(1) + ")";
            CHECK.due("the list has " + entry, readme.contains(entry) ? 1 : 0, 1);
            many++;
        }
        CHECK.due("promises with a call", many, 55);
    }
}
