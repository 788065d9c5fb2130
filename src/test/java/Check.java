import java.nio.charset.StandardCharsets;
import java.util.NoSuchElementException;

/** What every test of the project uses: counting wrong answers, and feeding a text. */
final class Check {
    /** Stands for "the call throws what the document names". */
    static final long THROWS = Long.MIN_VALUE;

    private static int wrong = 0;
    private static int asked = 0;

    private Check() {
    }

    static void due(String call, long got, long want) {
        asked++;
        if (got != want) {
            wrong++;
            if (wrong <= 50) {
                System.out.println(call + " answered " + tell(got) + ", due is " + tell(want));
            }
        }
    }

    static void due(String call, boolean got, boolean want) {
        due(call, got ? 1 : 0, want ? 1 : 0);
    }

    private static String tell(long answer) {
        return answer == THROWS ? "a throw" : Long.toString(answer);
    }

    static void finish() {
        System.out.println(asked + " answers, " + wrong + " of them wrong");
        if (wrong != 0 || asked == 0) {
            System.exit(1);
        }
    }

    /** Puts a text alone on the tape; each char is one byte. */
    static void feedText(WellCourt x, String text) {
        byte[] bytes = text.getBytes(StandardCharsets.ISO_8859_1);
        x.end(0);
        for (int at = 0; at < bytes.length; at += 20) {
            x.feed(four(bytes, at), four(bytes, at + 4), four(bytes, at + 8), four(bytes, at + 12), four(bytes, at + 16));
        }
        due("end of the text", x.end(bytes.length), true);
    }

    private static int four(byte[] bytes, int at) {
        int number = 0;
        for (int i = at; i < at + 4; i++) {
            number = number << 8 | (i < bytes.length ? bytes[i] & 255 : 0);
        }
        return number;
    }

    static int read(WellCourt x, String text) {
        feedText(x, text);
        return x.rights();
    }

    static WellCourt courtWith(String text) {
        WellCourt x = new WellCourt();
        due("rights of " + text, read(x, text) >= 0, true);
        return x;
    }

    static long drawn(WellCourt x, int k, int what) {
        try {
            return x.drawn(k, what);
        } catch (NoSuchElementException e) {
            return THROWS;
        }
    }

    static long plan(WellCourt x, int n, int looks) {
        try {
            return x.plan(n, looks);
        } catch (IllegalArgumentException e) {
            return THROWS;
        }
    }

    static void days(WellCourt x, int many) {
        for (int i = 0; i < many; i++) {
            due("next", x.next(), true);
        }
    }
}
