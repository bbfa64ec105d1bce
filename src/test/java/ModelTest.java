import java.lang.reflect.Method;
import java.nio.charset.StandardCharsets;
import java.util.ArrayList;
import java.util.Arrays;
import java.util.List;
import java.util.Random;

/** Runs of calls drawn from a seed, on SixStroke and on PlainStroke, whose answers must be alike. */
public final class ModelTest {
    /** Each call, how often it comes, and what its numbers are like. */
    private static final String[] CALLS = {
        "person 6 P w4", "have 6 P n", "hide 4 P n", "seen 3 P P", "sight 3 P P n", "tops 2", "next 2",
        "loses 3 P", "stroke 3", "act 8 P b e e t", "judge 4 S", "run 4 D", "value 8 P b e e t", "best 6 P w5",
        "gift 5 P P", "gifts 4 P", "restless 3", "rests 2 k", "total 4 P Y D", "way 2 P D", "turnsTo 4 P Y",
        "idle 3 D", "spread 2", "beside 4 D w5", "law 5 n s w3 L", "laws 2 D", "leaves 4 P P", "breaks 4 P P",
        "third 3 P", "know 3 P", "knows 3 P P", "lend 5 P P n", "round 4 P P", "hides 4 P n", "edge 4 P n",
        "pays 3 P D", "quiet 3 D w2", "again 2 D", "alike 2 D", "follows 4 P S", "plan 2 P q w4", "open 2",
        "duel 5 P P", "mixed 5 P P", "seed 2 V", "count 6 w14", "keep 2 w3", "back 2 w3", "row 5 S w4 r",
        "write 12 S i v", "paste 4 S i S i i", "fault 1 w3"};

    private final Random random;
    private final Check check = new Check("ModelTest");
    private final List<String[]> calls = new ArrayList<>();
    private SixStroke real;
    private PlainStroke plain;
    private final StringBuilder told = new StringBuilder();

    private ModelTest(long seed) {
        random = new Random(seed);
        for (String call : CALLS) {
            String[] parts = call.split(" ");
            for (int i = 0; i < Integer.parseInt(parts[1]); i++) {
                calls.add(parts);
            }
        }
    }

    public static void main(String[] args) throws Exception {
        int runs = args.length > 0 ? Integer.parseInt(args[0]) : 400;
        ModelTest test = new ModelTest(args.length > 1 ? Long.parseLong(args[1]) : 7);
        for (int run = 0; run < runs; run++) {
            test.oneRun();
        }
        test.check.close();
    }

    private void oneRun() throws Exception {
        real = new SixStroke();
        plain = new PlainStroke();
        told.setLength(0);
        int people = random.nextInt(10) == 0 ? random.nextInt(9) : 1 + random.nextInt(4);
        tell(text(people, people > 4 ? 5 : 5 + random.nextInt(random.nextInt(4) == 0 ? 10 : 4)));
        for (int i = 0; i < 60; i++) {
            if (random.nextInt(40) == 0) {
                tell(broken(text(1 + random.nextInt(3), 5 + random.nextInt(4))));
            } else {
                drawCall();
            }
        }
        for (int p = 0; p < 8; p++) {
            for (int what = 0; what < 4; what++) {
                both("person", p, what);
            }
        }
        for (int what = 0; what < 13; what++) {
            both("count", what);
        }
    }

    private void drawCall() throws Exception {
        String[] parts = calls.get(random.nextInt(calls.size()));
        Object[] numbers = new Object[parts.length - 2];
        for (int i = 0; i < numbers.length; i++) {
            numbers[i] = draw(parts[i + 2]);
        }
        both(parts[0], numbers);
    }

    private Object draw(String kind) {
        int people = real.count(1);
        boolean odd = random.nextInt(25) == 0;
        switch (kind.charAt(0)) {
            case 'P':
                return odd ? random.nextInt(12) - 2 : random.nextInt(Math.max(1, people));
            case 't':
                return random.nextBoolean() ? -1 : random.nextInt(people + 1);
            case 'b':
                return odd ? random.nextInt(5) - 2 : random.nextInt(2);
            case 'e':
                return random.nextBoolean() ? 0 : odd ? random.nextInt() : random.nextInt(7);
            case 'n':
                return odd ? random.nextInt(40) - 4 : random.nextInt(8);
            case 's':
                return odd ? random.nextInt(8) : 2 + random.nextInt(3);
            case 'D':
                return odd ? random.nextInt(34) - 1 : 1 + random.nextInt(4);
            case 'q':
                return odd ? random.nextInt(6) - 1 : 1 + random.nextInt(2);
            case 'k':
                return odd ? random.nextInt(9) - 1 : 1 + random.nextInt(3);
            case 'Y':
                return odd ? random.nextInt(10) - 2 : random.nextInt(6);
            case 'S':
                return odd ? random.nextInt(7) - 2 : random.nextInt(4);
            case 'i':
                return odd ? random.nextInt() : random.nextInt(12) - 1;
            case 'r':
                return odd ? random.nextInt(80) - 10 : random.nextInt(12);
            case 'v':
                return odd ? random.nextLong() : (long) (random.nextInt(7) - 1);
            case 'V':
                return odd ? random.nextInt() : random.nextInt(2_000_000_001);
            case 'L':
                return random.nextBoolean();
            default:
                int many = Integer.parseInt(kind.substring(1));
                return odd ? random.nextInt(many + 5) - 2 : random.nextInt(many);
        }
    }

    private void both(String name, Object... numbers) throws Exception {
        told.append('\n').append(name).append(Arrays.toString(numbers));
        long got = ((Number) named(SixStroke.class, name).invoke(real, numbers)).longValue();
        long want = ((Number) named(PlainStroke.class, name).invoke(plain, numbers)).longValue();
        check.due(name + Arrays.toString(numbers) + (got == want ? "" : " behind" + told + "\n"), got, want);
    }

    private static Method named(Class<?> type, String name) {
        for (Method m : type.getDeclaredMethods()) {
            if (m.getName().equals(name) && java.lang.reflect.Modifier.isPublic(m.getModifiers())) {
                return m;
            }
        }
        throw new IllegalArgumentException(name);
    }

    private void tell(String text) throws Exception {
        told.append("\nTOWN ").append(text);
        byte[] bytes = text.getBytes(StandardCharsets.ISO_8859_1);
        both("end", 0);
        for (int at = 0; at < bytes.length; at += 20) {
            Object[] n = new Object[5];
            for (int i = 0; i < 5; i++) {
                int v = 0;
                for (int k = 0; k < 4; k++) {
                    int from = at + 4 * i + k;
                    v = v << 8 | (from < bytes.length ? bytes[from] & 255 : 0);
                }
                n[i] = v;
            }
            both("feed", n);
        }
        both("end", bytes.length);
        both("town");
        both("fault", 0);
        both("fault", 1);
    }

    private String text(int people, int steps) {
        StringBuilder b = new StringBuilder("town steps " + steps + ";");
        if (random.nextInt(3) > 0) {
            b.append("law over " + (random.nextInt(3) == 0 ? random.nextInt(5) : 0) + " ties " + (2 + random.nextInt(3)) + " goes "
                    + List.of("well", "shared", "burnt").get(random.nextInt(3)) + (random.nextBoolean() ? " least" : "") + ";\n");
        }
        if (random.nextBoolean()) {
            b.append("found " + random.nextInt(101) + ";");
        }
        for (int p = 0; p < people; p++) {
            b.append("person has " + random.nextInt(steps + 1) + " brings " + random.nextInt(4) + " tires " + random.nextInt(20)
                    + " worth " + random.nextInt(12) + " eats " + random.nextInt(30) + " dulls " + random.nextInt(8) + " "
                    + List.of("eat", "match", "league " + random.nextInt(5), "hide " + random.nextInt(9), "work", "best", "best")
                            .get(random.nextInt(7)) + ";\n");
        }
        for (int i = 0; people > 1 && i < random.nextInt(5); i++) {
            int p = random.nextInt(people);
            b.append("sees " + p + " " + (p + 1 + random.nextInt(people - 1)) % people + " within " + (1 + random.nextInt(6)) + ";");
        }
        return b.toString();
    }

    /** A text with something in it changed, dropped or told twice. */
    private String broken(String text) {
        String[] tokens = text.replace(";", " ; ").trim().split("[ \n]+");
        List<String> list = new ArrayList<>(Arrays.asList(tokens));
        int times = random.nextInt(3);
        for (int i = 0; i < times; i++) {
            int at = random.nextInt(list.size());
            switch (random.nextInt(6)) {
                case 0:
                    list.remove(at);
                    break;
                case 1:
                    list.add(at, list.get(random.nextInt(list.size())));
                    break;
                case 2:
                    list.set(at, String.valueOf(random.nextInt(120)));
                    break;
                case 3:
                    list.set(at, list.get(random.nextInt(list.size())));
                    break;
                case 4:
                    list.add(at, String.valueOf((char) random.nextInt(256)));
                    break;
                default:
                    list = new ArrayList<>(list.subList(0, at + 1));
                    break;
            }
        }
        return String.join(random.nextBoolean() ? " " : "\n ", list);
    }
}
