import java.nio.charset.StandardCharsets;

/** Counts answers that are not as due, and tells a TOWN as a text. */
final class Check {
    static final int NOTHING = -2_000_000_000;
    private final String name;
    private int calls = 0;
    private int wrong = 0;

    Check(String name) {
        this.name = name;
    }

    void due(String what, long got, long want) {
        calls++;
        if (got != want) {
            wrong++;
            System.out.println(name + ": " + what + " answered " + got + ", due is " + want);
        }
    }

    /** Ends the test with exit code 1 if an answer was not as due. */
    void close() {
        System.out.println(name + ": " + calls + " answers, " + wrong + " not as due");
        if (wrong != 0) {
            System.exit(1);
        }
    }

    /** Feeds a text: what the TAPE has of it then (NONE if it could not be fed). */
    static int feed(SixStroke x, String text) {
        return feedBytes(x, text.getBytes(StandardCharsets.ISO_8859_1));
    }

    static int feedBytes(SixStroke x, byte[] bytes) {
        int before = x.count(3);
        for (int at = 0; at < bytes.length; at += 20) {
            int[] n = new int[5];
            for (int i = 0; i < 20; i++) {
                int b = at + i < bytes.length ? bytes[at + i] & 255 : 0;
                n[i / 4] = n[i / 4] << 8 | b;
            }
            if (x.feed(n[0], n[1], n[2], n[3], n[4]) == SixStroke.NONE) {
                return SixStroke.NONE;
            }
        }
        return x.end(before + bytes.length);
    }

    static int tell(SixStroke x, String text) {
        x.end(0);
        feed(x, text);
        return x.town();
    }

    /** A new object with this TOWN. */
    static SixStroke town(String text) {
        SixStroke x = new SixStroke();
        if (tell(x, text) < 0) {
            throw new IllegalArgumentException("fault " + x.fault(0) + " at " + x.fault(1) + " of " + text);
        }
        return x;
    }

    /** A person of few words: has, way; brings, tires, worth, eats and dulls are told in p. */
    static String person(int has, String rest, String way) {
        String[] n = rest.split(" ");
        return "person has " + has + " brings " + n[0] + " tires " + n[1] + " worth " + n[2]
                + " eats " + n[3] + " dulls " + n[4] + " " + way + "; ";
    }
}
