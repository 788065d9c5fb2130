import java.nio.charset.StandardCharsets;

/**
 * The calls of the document, answered by the class (Court) or by the model. A call that throws what
 * the document names answers THROWS.
 */
interface Face {
    long THROWS = Long.MIN_VALUE;

    int feed(int a, int b, int c, int d, int e);

    boolean end(int n);

    boolean well(int w, int cap, int rate, int level);

    int rights();

    int fault();

    boolean next();

    int water(int w, int what);

    int owner(int w, int day);

    int may(int w, int clan);

    int lend(int w, int day, int clan);

    int draw(int w, int clan, int amount);

    int take(int w, int clan, int amount);

    boolean report(int k);

    long drawn(int k, int what);

    int judge(int clan, int from, int to, int day, int what);

    boolean herd(int h, int clan, int draw, int last, int w);

    boolean drop(int h);

    boolean way(int u, int v, int days);

    long plan(int n, int looks);

    int step(int h, int day);

    int far();

    int count(int what);

    // ---- what tests do with several calls

    /** Puts a text alone on the tape; each char is one byte. */
    default void text(String text) {
        byte[] bytes = text.getBytes(StandardCharsets.ISO_8859_1);
        end(0);
        for (int at = 0; at < bytes.length; at += 20) {
            feed(four(bytes, at), four(bytes, at + 4), four(bytes, at + 8), four(bytes, at + 12), four(bytes, at + 16));
        }
        if (bytes.length % 20 != 0) {
            Check.due("end of the text", end(bytes.length), true);
        }
    }

    private static int four(byte[] bytes, int at) {
        int number = 0;
        for (int i = at; i < at + 4; i++) {
            number = number << 8 | (i < bytes.length ? bytes[i] & 255 : 0);
        }
        return number;
    }

    default int read(String text) {
        text(text);
        return rights();
    }

    default void days(int many) {
        for (int i = 0; i < many; i++) {
            Check.due("next", next(), true);
        }
    }
}
