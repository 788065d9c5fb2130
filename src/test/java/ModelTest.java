import java.util.Random;
import java.util.function.ToLongFunction;

/** Runs of up to 512 calls at random (always the same ones), each answer set against the model's. */
public final class ModelTest {
    private static final int RUNS = 450;
    /** The longest turn, a text of 800 bytes and what is asked behind it, must still fit in. */
    private static final int CALLS = Court.MOST_CALLS - 50;

    private final Random random;
    private final Court court = new Court();
    private final Model model = new Model();
    private int calls = 0;
    private final String run;

    private ModelTest(long seed) {
        random = new Random(seed);
        run = "run " + seed + ", ";
    }

    public static void main(String[] args) {
        for (int seed = 0; seed < RUNS; seed++) {
            new ModelTest(seed).run();
        }
        Check.finish();
    }

    private void run() {
        boolean longDays = random.nextInt(4) == 0;
        for (int w = 0; w < 6; w++) {
            if (random.nextInt(6) > 1) {
                well(w);
            }
        }
        while (calls < CALLS) {
            int kind = random.nextInt(100);
            if (kind < 4) {
                text();
            } else if (kind < (longDays ? 50 : 14)) {
                due("next", x -> x.next() ? 1 : 0);
            } else if (kind < 60) {
                drawing();
            } else if (kind < 85) {
                herding();
            } else {
                asking();
            }
        }
    }

    private void due(String call, ToLongFunction<Face> asked) {
        calls++;
        Check.due(run + "call " + calls + ": " + call, asked.applyAsLong(court), asked.applyAsLong(model));
    }

    /** Mostly below many, sometimes one of the numbers around and far from it. */
    private int number(int many) {
        int kind = random.nextInt(60);
        return kind == 0 ? -1 : kind == 1 ? many : kind == 2 ? random.nextInt() : random.nextInt(many);
    }

    private void well(int w) {
        int cap = random.nextInt(3) == 0 ? number(1001) : 1 + random.nextInt(60);
        int rate = random.nextInt(3) == 0 ? number(201) : random.nextInt(12);
        int level = random.nextInt(3) == 0 ? 0 : number(Math.max(1, cap == Integer.MAX_VALUE ? cap : cap + 1));
        due("well", x -> x.well(w, cap, rate, level) ? 1 : 0);
    }

    private void text() {
        byte[] bytes = rightsText().getBytes(java.nio.charset.StandardCharsets.ISO_8859_1);
        for (int at = 0; at < bytes.length; at += 20) {
            int[] five = new int[5];
            for (int i = 0; i < 20; i++) {
                five[i / 4] = five[i / 4] << 8 | (at + i < bytes.length ? bytes[at + i] & 255 : 32);
            }
            due("feed", x -> x.feed(five[0], five[1], five[2], five[3], five[4]));
        }
        if (random.nextInt(3) == 0) {
            int n = number(Math.max(1, model.count(5) + 1));
            due("end", x -> x.end(n) ? 1 : 0);
        }
        if (random.nextInt(8) > 0) {
            due("rights", x -> x.rights());
            due("fault", x -> x.fault());
            due("rules", x -> x.count(2));
            due("tape", x -> x.count(5));
        }
    }

    private String rightsText() {
        StringBuilder text = new StringBuilder();
        int rules = random.nextInt(12) == 0 ? 15 + random.nextInt(8) : random.nextInt(9);
        String free = "012345";
        for (int i = 0; i < rules; i++) {
            int kind = random.nextInt(5);
            if (kind == 0 && !free.isEmpty()) {
                char w = free.charAt(random.nextInt(free.length()));
                if (random.nextInt(20) > 0) {
                    free = free.replace("" + w, "");
                }
                text.append("turns ").append(w).append(" :");
                int shares = 1 + random.nextInt(random.nextInt(9) == 0 ? 9 : 4);
                for (int share = 0; share < shares; share++) {
                    text.append(share == 0 ? " " : ", ").append(clan()).append(' ').append(1 + random.nextInt(random.nextInt(9) == 0 ? 10 : 3));
                }
                text.append(";");
            } else if (kind == 1) {
                text.append("guest " + clan() + " at " + w() + " of " + clan() + " " + random.nextInt(30) + ";");
            } else if (kind == 2) {
                text.append("wed " + clan() + " " + clan() + ";");
            } else if (kind == 3) {
                text.append("drought " + w() + " below " + random.nextInt(random.nextInt(9) == 0 ? 1010 : 30) + " " + clan() + ";");
            } else {
                text.append("dry " + w() + " to " + w() + ";");
            }
            text.append(random.nextBoolean() ? " " : random.nextBoolean() ? "\n" : "");
        }
        if (random.nextInt(4) == 0 && text.length() > 0) {
            String signs = "af gtz019:;, \nAZ_#" + (char) 200;
            int at = random.nextInt(text.length());
            char sign = signs.charAt(random.nextInt(signs.length()));
            switch (random.nextInt(3)) {
                case 0 -> text.setCharAt(at, sign);
                case 1 -> text.insert(at, sign);
                default -> text.deleteCharAt(at);
            }
        }
        return text.substring(0, Math.min(text.length(), 800));
    }

    private char clan() {
        return "abcdef".charAt(random.nextInt(6));
    }

    private char w() {
        return "012345".charAt(random.nextInt(6));
    }

    private void drawing() {
        int w = number(6);
        int clan = number(6);
        int amount = random.nextInt(5) == 0 ? number(1001) : 1 + random.nextInt(12);
        switch (random.nextInt(8)) {
            case 0, 1, 2 -> due("draw", x -> x.draw(w, clan, amount));
            case 3, 4 -> due("take", x -> x.take(w, clan, amount));
            case 5 -> {
                int k = number(Math.max(1, model.count(4)));
                due("report", x -> x.report(k) ? 1 : 0);
            }
            case 6 -> {
                int day = random.nextInt(4) == 0 ? number(200) : model.count(0) + random.nextInt(20);
                due("lend", x -> x.lend(w, day, clan));
            }
            default -> {
                int from = number(200);
                int to = number(200);
                int day = number(200);
                int what = number(4);
                due("judge", x -> x.judge(clan, from, to, day, what));
                due("judge", x -> x.judge(clan, 0, 199, day, what));
            }
        }
    }

    private void herding() {
        int kind = random.nextInt(10);
        int h = number(4);
        if (kind < 3) {
            int clan = number(6);
            int draw = random.nextInt(4) == 0 ? number(101) : 1 + random.nextInt(8);
            int last = random.nextInt(4) == 0 ? number(10) : 1 + random.nextInt(4);
            int w = number(6);
            due("herd", x -> x.herd(h, clan, draw, last, w) ? 1 : 0);
        } else if (kind < 4) {
            due("drop", x -> x.drop(h) ? 1 : 0);
        } else if (kind < 7) {
            int u = number(6);
            int v = number(6);
            int days = random.nextInt(3) == 0 ? number(10) : random.nextInt(4);
            due("way", x -> x.way(u, v, days) ? 1 : 0);
        } else {
            int n = number(15);
            int looks = random.nextInt(20) == 0 ? number(50001) : 1 + random.nextInt(300);
            due("plan", x -> x.plan(n, looks));
            due("looks", x -> x.count(6));
            due("far", x -> x.far());
            for (int i = 0; i < 4; i++) {
                int herd = i;
                int day = model.count(0) + random.nextInt(10);
                due("step", x -> x.step(herd, day));
            }
        }
    }

    private void asking() {
        int w = number(6);
        int what = number(7);
        int day = number(200);
        int k = number(Math.max(1, model.count(4)));
        switch (random.nextInt(7)) {
            case 0 -> due("water", x -> x.water(w, what));
            case 1 -> due("owner", x -> x.owner(w, day));
            case 2 -> due("may", x -> x.may(w, what));
            case 3 -> due("count", x -> x.count(what));
            case 4 -> due("drawn", x -> x.drawn(k, what));
            case 5 -> due("step", x -> x.step(what, day));
            default -> well(w);
        }
    }
}
