import java.lang.reflect.Member;
import java.lang.reflect.Method;
import java.lang.reflect.Modifier;
import java.nio.file.Files;
import java.nio.file.Path;
import java.util.ArrayList;
import java.util.Arrays;
import java.util.List;
import java.util.Set;
import java.util.TreeSet;
import java.util.regex.Matcher;
import java.util.regex.Pattern;

/** The face, and what of ../shared/LANGUAGE.md can be seen from the source and the class. */
public final class LanguageTest {
    private static final Check CHECK = new Check("LanguageTest");
    private static final String[] FACE = {
        "feed int int int int int", "end int", "town", "fault int", "person int int", "have int int", "hide int int", "seen int int",
        "sight int int int", "tops", "next", "loses int", "stroke", "act int int int int int", "judge int", "run int",
        "value int int int int int", "best int int", "gift int int", "gifts int", "restless", "rests int", "total int int int",
        "way int int", "turnsTo int int", "idle int", "spread", "beside int int", "law int int int boolean", "laws int",
        "leaves int int", "breaks int int", "third int", "know int", "knows int int", "lend int int int", "round int int",
        "hides int int", "edge int int", "pays int int", "quiet int int", "again int", "alike int", "follows int int",
        "plan int int int", "open", "duel int int", "mixed int int", "seed int", "count int", "keep int", "back int",
        "row int int int", "write int int long", "paste int int int int int"};

    public static void main(String[] args) throws Exception {
        face();
        nested();
        words();
        sizes();
        CHECK.close();
    }

    private static void face() {
        Set<String> want = new TreeSet<>(Arrays.asList(FACE));
        Set<String> got = new TreeSet<>();
        for (Method m : SixStroke.class.getDeclaredMethods()) {
            if (Modifier.isPublic(m.getModifiers())) {
                StringBuilder b = new StringBuilder(m.getName());
                for (Class<?> type : m.getParameterTypes()) {
                    b.append(' ').append(type.getName());
                }
                got.add(b.toString());
                CHECK.due(m.getName() + " answers an int", m.getReturnType() == int.class ? 1 : 0, 1);
            } else {
                isPrivate(m);
                CHECK.due(m.getName() + " bears a public name", isOfFace(m.getName()) ? 1 : 0, 0);
            }
        }
        CHECK.due("the face is " + got, got.equals(want) ? 1 : 0, 1);
        Arrays.stream(SixStroke.class.getDeclaredFields()).filter(f -> !f.getName().equals("NONE")).forEach(LanguageTest::isPrivate);
        CHECK.due("one public constructor", SixStroke.class.getConstructors().length, 1);
        CHECK.due("final", Modifier.isFinal(SixStroke.class.getModifiers()) ? 1 : 0, 1);
    }

    private static boolean isOfFace(String name) {
        return Arrays.stream(FACE).anyMatch(f -> f.split(" ")[0].equals(name));
    }

    private static void isPrivate(Member m) {
        CHECK.due(m.getName() + " is private", Modifier.isPrivate(m.getModifiers()) ? 1 : 0, 1);
    }

    private static void nested() {
        Class<?>[] all = SixStroke.class.getDeclaredClasses();
        CHECK.due("at most twelve classes", all.length + 1 <= 12 ? 1 : 0, 1);
        for (Class<?> c : all) {
            CHECK.due(c + " is static", Modifier.isStatic(c.getModifiers()) ? 1 : 0, 1);
            for (Method m : c.getDeclaredMethods()) {
                CHECK.due(c + " " + m.getName() + " bears a public name", isOfFace(m.getName()) ? 1 : 0, 0);
                CHECK.due(m.getName() + " takes too many", m.getParameterCount() > 7 ? 1 : 0, 0);
            }
            long fields = Arrays.stream(c.getDeclaredFields()).filter(f -> !Modifier.isStatic(f.getModifiers())).count();
            CHECK.due(c + " has at most twenty fields", fields <= 20 ? 1 : 0, 1);
        }
    }

    private static String source() throws Exception {
        for (String at : List.of("src/main/java/SixStroke.java", "../src/main/java/SixStroke.java")) {
            if (Files.exists(Path.of(at))) {
                return Files.readString(Path.of(at));
            }
        }
        throw new IllegalStateException("run this from the project's folder");
    }

    private static void words() throws Exception {
        String code = source().replaceAll("(?s)/\\*.*?\\*/", "").replaceAll("//[^\n]*", "").replaceAll("\"[^\"]*\"", "\"\"");
        for (String word : List.of("throw", "throws", "try", "catch", "synchronized", "assert", "import", "package", "hashCode", "toString",
                "var", "Object", "Random", "Thread", "native", "volatile", "protected")) {
            CHECK.due("the word " + word, count("\\b" + word + "\\b", code), 0);
        }
        for (String sign : List.of("->", "::", "Exact\\(", "@", "\\[\\]\\[\\]\\[\\]", "while \\(true\\)")) {
            CHECK.due("the sign " + sign, count(sign, code), 0);
        }
        List<String> named = new ArrayList<>();
        Matcher m = Pattern.compile("\\b(System|Math|Integer|Long|Arrays)\\.(\\w+)").matcher(code);
        Set<String> may = Set.of("System.arraycopy", "Math.min", "Math.max", "Math.abs", "Integer.MAX_VALUE", "Integer.MIN_VALUE");
        while (m.find()) {
            if (!may.contains(m.group())) {
                named.add(m.group());
            }
        }
        CHECK.due("beyond the library: " + named, named.size(), 0);
        CHECK.due("signs 1 to 127 alone", source().chars().filter(c -> c > 127).count(), 0);
    }

    private static long count(String pattern, String text) {
        return Pattern.compile(pattern).matcher(text).results().count();
    }

    /** Methods of some sixty lines at most. */
    private static void sizes() throws Exception {
        String[] lines = source().split("\n");
        int start = 0;
        String indent = "";
        for (int i = 0; i < lines.length; i++) {
            Matcher m = Pattern.compile("^( {4}| {8})(?:\\w+ )*[\\w\\[\\]]+ ?\\w*\\([^;]*\\{$").matcher(lines[i]);
            if (m.find()) {
                start = i;
                indent = m.group(1);
            } else if (lines[i].equals(indent + "}") && start > 0) {
                CHECK.due("too long: " + lines[start].trim(), i - start > 60 ? i - start : 0, 0);
                start = 0;
            }
        }
    }
}
