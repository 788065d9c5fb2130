import java.util.ArrayList;
import java.util.HashMap;
import java.util.List;
import java.util.Map;
import java.util.regex.Matcher;
import java.util.regex.Pattern;

/**
 * The document once more, as plainly as Java with its library allows: rules are kept as they
 * stand in the text, every day of a plan is a copy, the plan is a recursion. ModelTest sets the
 * class against it.
 */
final class Model implements Face {
    private static final int NONE = -1;

    private static final class Well {
        int cap;
        int rate;
        int level;
        int morning;

        Well copy() {
            Well other = new Well();
            other.cap = cap;
            other.rate = rate;
            other.level = level;
            other.morning = morning;
            return other;
        }
    }

    private static final class Herd {
        int clan;
        int draw;
        int last;
        int at;
        int drank;
        int arrives;

        Herd copy() {
            Herd other = new Herd();
            other.clan = clan;
            other.draw = draw;
            other.last = last;
            other.at = at;
            other.drank = drank;
            other.arrives = arrives;
            return other;
        }
    }

    private record Draw(int day, int well, int clan, int amount, boolean right, int[] known) {
    }

    private static final class Fault extends Exception {
        private static final long serialVersionUID = 1L;
        final int kind;
        final int place;

        Fault(int kind, int place) {
            this.kind = kind;
            this.place = place;
        }
    }

    private static final class Cut extends Exception {
        private static final long serialVersionUID = 1L;
    }

    private final StringBuilder tape = new StringBuilder();
    private final Map<Integer, Well> wells = new HashMap<>();
    private final Map<Integer, Herd> herds = new HashMap<>();
    private final Map<Integer, Integer> ways = new HashMap<>();
    private final List<Draw> draws = new ArrayList<>();
    private final int[][] owners = new int[200][6];
    private List<String[]> rules = new ArrayList<>();
    private int fault = 0;
    private int day = 0;
    private int looks = 0;
    private int far = 0;
    private Map<Integer, Integer> steps = new HashMap<>();

    Model() {
        for (int[] row : owners) {
            java.util.Arrays.fill(row, NONE);
        }
    }

    @Override
    public int feed(int a, int b, int c, int d, int e) {
        if (tape.length() > 780) {
            return NONE;
        }
        for (int number : new int[] {a, b, c, d, e}) {
            tape.append((char) (number >>> 24)).append((char) (number >>> 16 & 255));
            tape.append((char) (number >>> 8 & 255)).append((char) (number & 255));
        }
        return tape.length();
    }

    @Override
    public boolean end(int n) {
        if (n < 0 || n > tape.length()) {
            return false;
        }
        tape.setLength(n);
        return true;
    }

    @Override
    public boolean well(int w, int cap, int rate, int level) {
        if (w < 0 || w > 5 || wells.containsKey(w) || cap < 1 || cap > 1000 || rate < 0 || rate > 200 || level < 0 || level > cap) {
            return false;
        }
        Well well = new Well();
        well.cap = cap;
        well.rate = rate;
        well.level = level;
        well.morning = level;
        wells.put(w, well);
        return true;
    }

    // ---- the text

    private String text;
    private int at;
    private String token;
    private int tokenAt;

    private void token() throws Fault {
        Matcher blanks = Pattern.compile("[ \n]*").matcher(text).region(at, text.length());
        blanks.lookingAt();
        tokenAt = blanks.end();
        Matcher run = Pattern.compile("[a-zA-Z0-9]+|[:,;]").matcher(text).region(tokenAt, text.length());
        if (tokenAt == text.length()) {
            token = "";
            at = tokenAt;
        } else if (!run.lookingAt() || !run.group().matches("[a-z]+|[0-9]{1,4}|[:,;]")) {
            throw new Fault(1, tokenAt);
        } else {
            token = run.group();
            at = run.end();
        }
    }

    private String want(String pattern) throws Fault {
        token();
        if (!token.matches(pattern)) {
            throw new Fault(2, tokenAt);
        }
        return token;
    }

    private String wantNumber(int low, int high) throws Fault {
        int number = Integer.parseInt(want("[0-9]+"));
        if (number < low || number > high) {
            throw new Fault(3, tokenAt);
        }
        return Integer.toString(number);
    }

    private String wantUnlike(String pattern, String other) throws Fault {
        String found = want(pattern);
        if (found.equals(other)) {
            throw new Fault(3, tokenAt);
        }
        return found;
    }

    private List<String[]> parse() throws Fault {
        List<String[]> read = new ArrayList<>();
        for (at = 0;;) {
            String word = want("turns|guest|wed|drought|dry|");
            if (word.isEmpty()) {
                return read;
            }
            if (read.size() == 20) {
                throw new Fault(4, tokenAt);
            }
            switch (word) {
                case "turns" -> read.add(parseTurns(read));
                case "guest" -> {
                    String clan = want("[a-f]");
                    want("at");
                    String w = wantNumber(0, 5);
                    want("of");
                    read.add(new String[] {word, clan, w, wantUnlike("[a-f]", clan), wantNumber(0, 1000)});
                    want(";");
                }
                case "wed" -> {
                    String clan = want("[a-f]");
                    read.add(new String[] {word, clan, wantUnlike("[a-f]", clan)});
                    want(";");
                }
                case "drought" -> {
                    String w = wantNumber(0, 5);
                    want("below");
                    read.add(new String[] {word, w, wantNumber(0, 1000), want("[a-f]")});
                    want(";");
                }
                default -> {
                    String w = wantNumber(0, 5);
                    want("to");
                    String v = wantNumber(0, 5);
                    if (w.equals(v)) {
                        throw new Fault(3, tokenAt);
                    }
                    read.add(new String[] {word, w, v});
                    want(";");
                }
            }
        }
    }

    private String[] parseTurns(List<String[]> read) throws Fault {
        String w = wantNumber(0, 5);
        for (String[] rule : read) {
            if (rule[0].equals("turns") && rule[1].equals(w)) {
                throw new Fault(3, tokenAt);
            }
        }
        want(":");
        StringBuilder round = new StringBuilder();
        for (int i = 0;; i++) {
            String clan = want("[a-f]");
            if (i == 8) {
                throw new Fault(4, tokenAt);
            }
            round.append(clan.repeat(Integer.parseInt(wantNumber(1, 9))));
            if (want("[,;]").equals(";")) {
                return new String[] {"turns", w, round.toString()};
            }
        }
    }

    @Override
    public int rights() {
        text = tape.toString();
        tape.setLength(0);
        fault = 0;
        try {
            rules = parse();
        } catch (Fault found) {
            fault = found.kind;
            return -1 - found.place;
        }
        for (int d = day; d < 200; d++) {
            for (int w = 0; w < 6; w++) {
                owners[d][w] = NONE;
                for (String[] rule : rules) {
                    if (rule[0].equals("turns") && rule[1].equals("" + w)) {
                        owners[d][w] = rule[2].charAt(d % rule[2].length()) - 'a';
                    }
                }
            }
        }
        owners[day] = drought(owners[day], wells);
        return rules.size();
    }

    @Override
    public int fault() {
        return fault;
    }

    // ---- days

    private int[] drought(int[] turns, Map<Integer, Well> state) {
        int[] row = turns.clone();
        for (int i = rules.size() - 1; i >= 0; i--) {
            String[] rule = rules.get(i);
            if (rule[0].equals("drought")) {
                int w = Integer.parseInt(rule[1]);
                if (state.containsKey(w) && state.get(w).morning < Integer.parseInt(rule[2])) {
                    row[w] = rule[3].charAt(0) - 'a';
                }
            }
        }
        return row;
    }

    private static void grow(Map<Integer, Well> state) {
        for (Well well : state.values()) {
            well.level = Math.min(well.cap, well.level + well.rate);
            well.morning = well.level;
        }
    }

    @Override
    public boolean next() {
        if (day == 199) {
            return false;
        }
        day++;
        grow(wells);
        owners[day] = drought(owners[day], wells);
        return true;
    }

    @Override
    public int water(int w, int what) {
        Well well = wells.get(w);
        if (well == null || what < 0 || what > 3) {
            return NONE;
        }
        return new int[] {well.level, well.morning, well.cap, well.rate}[what];
    }

    @Override
    public int owner(int w, int d) {
        return w < 0 || w > 5 || d < 0 || d > 199 ? NONE : owners[d][w];
    }

    private static String letter(int clan) {
        return clan == NONE ? "none" : "" + (char) ('a' + clan);
    }

    private boolean isRight(int[] row, Map<Integer, Well> state, int w, int clan) {
        if (row[w] == clan) {
            return true;
        }
        for (String[] rule : rules) {
            if (rule[0].equals("wed")) {
                String pair = rule[1] + rule[2];
                if (pair.equals(letter(row[w]) + letter(clan)) || pair.equals(letter(clan) + letter(row[w]))) {
                    return true;
                }
            }
            if (rule[0].equals("dry") && rule[2].equals("" + w)) {
                int from = Integer.parseInt(rule[1]);
                if (state.containsKey(from) && state.get(from).morning == 0 && row[from] == clan) {
                    return true;
                }
            }
        }
        return false;
    }

    private int many(int w, int clan) {
        for (String[] rule : rules) {
            if (rule[0].equals("guest") && rule[1].equals(letter(clan)) && rule[2].equals("" + w) && rule[3].equals(letter(owners[day][w]))) {
                return Integer.parseInt(rule[4]);
            }
        }
        return NONE;
    }

    @Override
    public int may(int w, int clan) {
        if (!wells.containsKey(w) || clan < 0 || clan > 5) {
            return NONE;
        }
        return isRight(owners[day], wells, w, clan) ? 1 : many(w, clan) >= 0 ? 2 : 0;
    }

    @Override
    public int lend(int w, int d, int clan) {
        int holder = owner(w, d);
        if (clan < 0 || clan > 5 || d <= day || holder == NONE || holder == clan) {
            return NONE;
        }
        int back = d + 1;
        while (back < 200 && owners[back][w] != clan) {
            back++;
        }
        if (back == 200) {
            return NONE;
        }
        owners[d][w] = clan;
        owners[back][w] = holder;
        return back;
    }

    // ---- draws

    @Override
    public int draw(int w, int clan, int amount) {
        int may = may(w, clan);
        if (may == NONE || amount < 1 || amount > 1000 || draws.size() == 300) {
            return 1;
        }
        if (may == 0) {
            return 2;
        }
        int before = 0;
        for (Draw draw : draws) {
            before += draw.day == day && draw.well == w && draw.clan == clan && draw.right ? draw.amount : 0;
        }
        if (may == 2 && before + amount > many(w, clan)) {
            return 3;
        }
        if (amount > wells.get(w).level) {
            return 4;
        }
        wells.get(w).level -= amount;
        draws.add(new Draw(day, w, clan, amount, true, new int[] {day}));
        return 0;
    }

    @Override
    public int take(int w, int clan, int amount) {
        int may = may(w, clan);
        if (may == NONE || amount < 1 || amount > 1000 || draws.size() == 300) {
            return 1;
        }
        if (may == 1) {
            return 5;
        }
        if (amount > wells.get(w).level) {
            return 4;
        }
        wells.get(w).level -= amount;
        draws.add(new Draw(day, w, clan, amount, false, new int[] {NONE}));
        return 0;
    }

    @Override
    public boolean report(int k) {
        if (k < 0 || k >= draws.size() || draws.get(k).known[0] != NONE) {
            return false;
        }
        draws.get(k).known[0] = day;
        return true;
    }

    @Override
    public long drawn(int k, int what) {
        if (k < 0 || k >= draws.size() || what < 0 || what > 5) {
            return THROWS;
        }
        Draw draw = draws.get(k);
        return new int[] {draw.day, draw.well, draw.clan, draw.amount, draw.right ? 1 : 0, draw.known[0]}[what];
    }

    @Override
    public int judge(int clan, int from, int to, int d, int what) {
        if (clan < 0 || clan > 5 || what < 0 || what > 3) {
            return NONE;
        }
        int[] sums = new int[4];
        int right = 0;
        for (Draw draw : draws) {
            if (draw.clan == clan && draw.day >= from && draw.day <= to) {
                boolean known = draw.known[0] != NONE && draw.known[0] <= d;
                sums[0] += draw.amount;
                sums[1] += draw.right ? 0 : draw.amount;
                sums[2] += !draw.right && known ? draw.amount : 0;
                right += draw.right && known ? draw.amount : 0;
            }
        }
        sums[3] = Math.max(0, 2 * sums[2] - right);
        return sums[what];
    }

    // ---- herds

    @Override
    public boolean herd(int h, int clan, int draw, int last, int w) {
        if (h < 0 || h > 3 || clan < 0 || clan > 5 || draw < 1 || draw > 100 || last < 1 || last > 9 || !wells.containsKey(w)) {
            return false;
        }
        Herd herd = new Herd();
        herd.clan = clan;
        herd.draw = draw;
        herd.last = last;
        herd.at = w;
        herd.drank = day;
        herds.put(h, herd);
        return true;
    }

    @Override
    public boolean drop(int h) {
        return herds.remove(h) != null;
    }

    @Override
    public boolean way(int u, int v, int days) {
        if (u < 0 || u > 5 || v < 0 || v > 5 || u == v || days < 0 || days > 9) {
            return false;
        }
        ways.put(u * 6 + v, days);
        return true;
    }

    @Override
    public long plan(int n, int most) {
        if (most < 1 || most > 50000) {
            return THROWS;
        }
        looks = 0;
        if (herds.isEmpty() || n < 1 || n > 14 || day + n > 199) {
            return NONE;
        }
        far = 0;
        Map<Integer, Integer> done = new HashMap<>();
        try {
            if (!planDay(day + 1, day + n, most, wells, herds, done)) {
                return 1;
            }
        } catch (Cut cut) {
            return 2;
        }
        steps = done;
        return 0;
    }

    private boolean planDay(int d, int lastDay, int most, Map<Integer, Well> before, Map<Integer, Herd> flock,
            Map<Integer, Integer> done) throws Cut {
        if (d > lastDay) {
            return true;
        }
        Map<Integer, Well> state = copyWells(before);
        grow(state);
        return planHerd(0, d, lastDay, most, state, flock, done);
    }

    private static Map<Integer, Well> copyWells(Map<Integer, Well> from) {
        Map<Integer, Well> copy = new HashMap<>();
        from.forEach((w, well) -> copy.put(w, well.copy()));
        return copy;
    }

    private boolean planHerd(int h, int d, int lastDay, int most, Map<Integer, Well> state, Map<Integer, Herd> flock,
            Map<Integer, Integer> done) throws Cut {
        if (h == 4) {
            for (Herd herd : flock.values()) {
                if (d - herd.drank > herd.last) {
                    return false;
                }
            }
            far = Math.max(far, d - day);
            return planDay(d + 1, lastDay, most, state, flock, done);
        }
        Herd herd = flock.get(h);
        if (herd == null) {
            return planHerd(h + 1, d, lastDay, most, state, flock, done);
        }
        if (herd.arrives > d) {
            done.put(d * 4 + h, 9);
            return planHerd(h + 1, d, lastDay, most, state, flock, done);
        }
        for (int act = 0; act < 8; act++) {
            Map<Integer, Well> water = copyWells(state);
            Herd after = herd.copy();
            if (act == 0) {
                Well here = water.get(herd.at);
                if (here == null || here.level < herd.draw || !isRight(drought(owners[d], state), state, herd.at, herd.clan)) {
                    continue;
                }
                here.level -= herd.draw;
                after.drank = d;
            } else if (act >= 2) {
                int days = ways.getOrDefault(herd.at * 6 + act - 2, 0);
                if (days == 0) {
                    continue;
                }
                after.at = act - 2;
                after.arrives = d + days;
            }
            if (looks == most) {
                throw new Cut();
            }
            looks++;
            Map<Integer, Herd> moved = new HashMap<>(flock);
            moved.put(h, after);
            done.put(d * 4 + h, act);
            if (planHerd(h + 1, d, lastDay, most, water, moved, done)) {
                return true;
            }
        }
        return false;
    }

    @Override
    public int step(int h, int d) {
        return h < 0 || h > 3 || d < 0 || d > 199 ? NONE : steps.getOrDefault(d * 4 + h, NONE);
    }

    @Override
    public int far() {
        return far;
    }

    @Override
    public int count(int what) {
        if (what < 0 || what > 6) {
            return NONE;
        }
        return new int[] {day, wells.size(), rules.size(), herds.size(), draws.size(), tape.length(), looks}[what];
    }
}
