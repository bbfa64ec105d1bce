import java.lang.reflect.Method;
import java.lang.reflect.Modifier;
import java.util.ArrayList;
import java.util.Comparator;
import java.util.List;
import java.util.Random;

/** Any numbers in any state: no call throws, and calls that tell only leave all as it was. */
public final class AnythingTest {
    private static final Check CHECK = new Check("AnythingTest");
    private static final List<String> CHANGES = List.of("feed", "end", "town", "have", "hide", "sight", "stroke", "act", "run", "turnsTo",
            "law", "lend", "open", "seed", "keep", "back", "row", "write", "paste");
    private static final int[] ODD = {Integer.MIN_VALUE, Integer.MIN_VALUE + 1, -2_000_000_000, -9, -2, -1, 0, 0, 1, 1, 2, 2, 3, 4, 5, 6, 7, 8, 9,
        29, 30, 31, 32, 59, 60, 61, 64, 1580, 1600, 1601, 65536, Integer.MAX_VALUE - 1, Integer.MAX_VALUE};

    public static void main(String[] args) throws Exception {
        Random random = new Random(11);
        List<Method> face = new ArrayList<>();
        for (Method m : SixStroke.class.getDeclaredMethods()) {
            if (Modifier.isPublic(m.getModifiers())) {
                face.add(m);
            }
        }
        face.sort(Comparator.comparing(Method::getName));
        for (int run = 0; run < 150; run++) {
            SixStroke x = new SixStroke();
            if (run % 5 > 0) {
                Check.tell(x, town(random, run % 9));
            }
            for (int i = 0; i < 300; i++) {
                call(x, face.get(random.nextInt(face.size())), random);
            }
        }
        CHECK.close();
    }

    private static void call(SixStroke x, Method m, Random random) throws Exception {
        Object[] numbers = new Object[m.getParameterCount()];
        for (int i = 0; i < numbers.length; i++) {
            Class<?> type = m.getParameterTypes()[i];
            int n = ODD[random.nextInt(ODD.length)];
            n = random.nextInt(3) > 0 ? random.nextInt(5) - 1 : n;
            if (type == boolean.class) {
                numbers[i] = random.nextBoolean();
            } else if (type == long.class) {
                numbers[i] = random.nextInt(6) == 0 ? random.nextLong() : (long) n;
            } else {
                numbers[i] = n;
            }
        }
        boolean tells = !CHANGES.contains(m.getName());
        long before = tells ? state(x) : 0;
        m.invoke(x, numbers);
        if (tells) {
            CHECK.due(m.getName() + " changed something", state(x), before);
        }
    }

    private static long state(SixStroke x) {
        long sum = 0;
        for (int what = 0; what < 13; what++) {
            sum = sum * 31 + x.count(what);
        }
        for (int p = 0; p < x.count(1); p++) {
            for (int what = 0; what < 4; what++) {
                sum = sum * 31 + x.person(p, what);
            }
            for (int q = 0; q < x.count(1); q++) {
                sum = sum * 31 + x.seen(p, q);
            }
        }
        return (sum * 31 + x.fault(0)) * 31 + x.fault(1);
    }

    private static String town(Random random, int people) {
        StringBuilder b = new StringBuilder("town steps " + (5 + random.nextInt(26)) + ";");
        b.append("law over " + random.nextInt(4) + " ties " + (2 + random.nextInt(3)) + " goes " + List.of("well", "shared", "burnt").get(random.nextInt(3))
                + (random.nextBoolean() ? " least;" : ";") + "found " + random.nextInt(101) + ";");
        String[] ways = {"eat", "match", "league 1", "hide 5", "work", "best"};
        for (int p = 0; p < people; p++) {
            b.append(Check.person(random.nextInt(6), random.nextInt(10) + " " + random.nextInt(20) + " " + random.nextInt(20) + " "
                    + random.nextInt(30) + " " + random.nextInt(9), ways[random.nextInt(6)]));
        }
        return b.toString();
    }
}
