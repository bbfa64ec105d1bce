import java.io.PrintWriter;
import java.io.StringWriter;
import java.lang.reflect.Member;
import java.lang.reflect.Method;
import java.lang.reflect.Modifier;
import java.nio.file.Files;
import java.nio.file.Path;
import java.util.ArrayList;
import java.util.Arrays;
import java.util.List;
import java.util.Map;
import java.util.Set;
import java.util.TreeMap;
import java.util.TreeSet;
import java.util.regex.Matcher;
import java.util.regex.Pattern;
import java.util.spi.ToolProvider;

/** The face, and what of ../shared/LANGUAGE.md can be seen from the source and the class. */
public final class LanguageTest {
    private static final Check CHECK = new Check("LanguageTest");
    private static final String[] FACE = {
        "feed int int int int int", "end int", "town", "fault int", "person int int", "have int int", "hide int int", "seen int int",
        "sight int int int", "tops", "next", "loses int", "stroke", "act int int int int int", "judge int", "run int",
        "value int int int int int", "best int int", "gift int int", "gifts int", "restless", "rests int", "total int int int",
        "way int int", "turnsTo int int", "idle int", "spread", "beside int int", "law int int int boolean", "laws int",
        "leaves int int", "breaks int int", "third int", "know int", "knows int int", "lend int int int", "round int int",
        "hides int int", "edge int int", "pays int int", "quiet int int", "again int", "alike int", "follows int int",
        "plan int int int", "open", "duel int int", "mixed int int", "seed int", "count int", "keep int", "back int",
        "row int int int", "write int int long", "paste int int int int int"};

    /** What the class may call of the library (rule 4): the start of each name as the machine has it. */
    private static final List<String> LIBRARY = List.of("java/lang/Object.<init>", "java/lang/Math.min", "java/lang/Math.max",
            "java/lang/Math.abs", "java/lang/String.length", "java/lang/String.charAt", "java/lang/System.arraycopy");
    private static final int MOST_DEEP = 8;

    /** Each method of the class and of those inside it, with those that it calls. */
    private static final Map<String, Set<String>> CALLS = new TreeMap<>();

    public static void main(String[] args) throws Exception {
        face();
        nested();
        words();
        sizes();
        readCalls();
        library();
        depths();
        CHECK.close();
    }

    private static void face() {
        Set<String> want = new TreeSet<>(Arrays.asList(FACE));
        Set<String> got = new TreeSet<>();
        for (Method m : SixStroke.class.getDeclaredMethods()) {
            if (Modifier.isPublic(m.getModifiers())) {
                StringBuilder b = new StringBuilder(m.getName());
                for (Class<?> type : m.getParameterTypes()) {
                    b.append(' ').append(type.getName());
                }
                got.add(b.toString());
                CHECK.due(m.getName() + " answers an int", m.getReturnType() == int.class ? 1 : 0, 1);
            } else {
                isPrivate(m);
                CHECK.due(m.getName() + " bears a public name", isOfFace(m.getName()) ? 1 : 0, 0);
            }
        }
        CHECK.due("the face is " + got, got.equals(want) ? 1 : 0, 1);
        Arrays.stream(SixStroke.class.getDeclaredFields()).filter(f -> !f.getName().equals("NONE")).forEach(LanguageTest::isPrivate);
        CHECK.due("one public constructor", SixStroke.class.getConstructors().length, 1);
        CHECK.due("final", Modifier.isFinal(SixStroke.class.getModifiers()) ? 1 : 0, 1);
    }

    private static boolean isOfFace(String name) {
        return Arrays.stream(FACE).anyMatch(f -> f.split(" ")[0].equals(name));
    }

    private static void isPrivate(Member m) {
        CHECK.due(m.getName() + " is private", Modifier.isPrivate(m.getModifiers()) ? 1 : 0, 1);
    }

    private static void nested() {
        Class<?>[] all = SixStroke.class.getDeclaredClasses();
        CHECK.due("at most twelve classes", all.length + 1 <= 12 ? 1 : 0, 1);
        for (Class<?> c : all) {
            CHECK.due(c + " is static", Modifier.isStatic(c.getModifiers()) ? 1 : 0, 1);
            for (Method m : c.getDeclaredMethods()) {
                CHECK.due(c + " " + m.getName() + " bears a public name", isOfFace(m.getName()) ? 1 : 0, 0);
                CHECK.due(m.getName() + " takes too many", m.getParameterCount() > 7 ? 1 : 0, 0);
            }
            long fields = Arrays.stream(c.getDeclaredFields()).filter(f -> !Modifier.isStatic(f.getModifiers())).count();
            CHECK.due(c + " has at most twenty fields", fields <= 20 ? 1 : 0, 1);
        }
    }

    private static String source() throws Exception {
        for (String at : List.of("src/main/java/SixStroke.java", "../src/main/java/SixStroke.java")) {
            if (Files.exists(Path.of(at))) {
                return Files.readString(Path.of(at));
            }
        }
        throw new IllegalStateException("run this from the project's folder");
    }

    private static void words() throws Exception {
        String code = source().replaceAll("(?s)/\\*.*?\\*/", "").replaceAll("//[^\n]*", "").replaceAll("\"[^\"]*\"", "\"\"");
        for (String word : List.of("throw", "throws", "try", "catch", "synchronized", "assert", "import", "package", "hashCode", "toString",
                "var", "Object", "Random", "Thread", "native", "volatile", "protected")) {
            CHECK.due("the word " + word, count("\\b" + word + "\\b", code), 0);
        }
        for (String sign : List.of("->", "::", "Exact\\(", "@", "\\[\\]\\[\\]\\[\\]", "while \\(true\\)")) {
            CHECK.due("the sign " + sign, count(sign, code), 0);
        }
        List<String> named = new ArrayList<>();
        Matcher m = Pattern.compile("\\b(System|Math|Integer|Long|Arrays)\\.(\\w+)").matcher(code);
        Set<String> may = Set.of("System.arraycopy", "Math.min", "Math.max", "Math.abs");
        while (m.find()) {
            if (!may.contains(m.group())) {
                named.add(m.group());
            }
        }
        CHECK.due("beyond the library: " + named, named.size(), 0);
        CHECK.due("signs 1 to 127 alone", source().chars().filter(c -> c > 127).count(), 0);
    }

    private static long count(String pattern, String text) {
        return Pattern.compile(pattern).matcher(text).results().count();
    }

    /** Methods of some sixty lines at most. */
    private static void sizes() throws Exception {
        String[] lines = source().split("\n");
        int start = 0;
        String indent = "";
        for (int i = 0; i < lines.length; i++) {
            Matcher m = Pattern.compile("^( {4}| {8})(?:\\w+ )*[\\w\\[\\]]+ ?\\w*\\([^;]*\\{$").matcher(lines[i]);
            if (m.find()) {
                start = i;
                indent = m.group(1);
            } else if (lines[i].equals(indent + "}") && start > 0) {
                CHECK.due("too long: " + lines[start].trim(), i - start > 60 ? i - start : 0, 0);
                start = 0;
            }
        }
    }

    /** What javap tells of the compiled class; what is made outside of a constructor is held against it at once. */
    private static void readCalls() {
        List<String> args = new ArrayList<>(List.of("-c", "-p", "-cp", System.getProperty("java.class.path"), "SixStroke"));
        for (Class<?> c : SixStroke.class.getDeclaredClasses()) {
            args.add(c.getName());
        }
        StringWriter told = new StringWriter();
        PrintWriter out = new PrintWriter(told);
        ToolProvider.findFirst("javap").orElseThrow().run(out, out, args.toArray(new String[0]));
        Pattern heading = Pattern.compile("^(?:\\w+ )*class (\\S+) ");
        Pattern method = Pattern.compile("^  (?:\\S+ )*([\\w$]+)\\(.*\\);$");
        Pattern call = Pattern.compile("// (?:Interface)?Method ([^:]+):");
        String owner = "";
        String at = "";
        for (String line : told.toString().split("\n")) {
            Matcher m = heading.matcher(line);
            if (m.find()) {
                owner = m.group(1);
                continue;
            }
            m = method.matcher(line);
            if (m.find()) {
                at = owner + "." + (m.group(1).equals(owner) ? "<init>" : m.group(1));
                CALLS.putIfAbsent(at, new TreeSet<>());
                continue;
            }
            m = call.matcher(line);
            if (m.find()) {
                String name = m.group(1).replace("\"", "");
                CALLS.get(at).add(name.contains(".") ? name : owner + "." + name);
            }
            if (line.matches(" +\\d+: (new|newarray|anewarray|multianewarray|athrow|invokedynamic)\\b.*")) {
                CHECK.due(at + " has " + line.trim(), at.endsWith("<init>") ? 0 : 1, 0);
            }
        }
    }

    private static void library() {
        CHECK.due("methods were read", CALLS.size() > 100 ? 1 : 0, 1);
        for (String at : CALLS.keySet()) {
            for (String name : CALLS.get(at)) {
                CHECK.due(at + " calls " + name, CALLS.containsKey(name) || LIBRARY.contains(name) ? 1 : 0, 1);
            }
        }
    }

    /** No call goes deeper than eight, those of the library counted (rule 11), and none comes back to itself (rule 8). */
    private static void depths() {
        for (String at : CALLS.keySet()) {
            int deep = depth(at, 1);
            CHECK.due(at + " goes too deep", deep > MOST_DEEP ? deep : 0, 0);
        }
    }

    private static int depth(String at, int above) {
        int most = above;
        for (String name : CALLS.getOrDefault(at, Set.of())) {
            most = Math.max(most, above > 2 * MOST_DEEP ? above : depth(name, above + 1));
        }
        return most;
    }
}
