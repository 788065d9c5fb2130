import java.util.ArrayList;
import java.util.List;
import java.util.Random;

/**
 * "MORNINGS, LEVELS, OWNERS go on as told by next(), as if nobody else drew": plans against real
 * days of the class itself. A plan that is found is carried out with next() and draw(); and all that
 * herds can do is tried in its order on real days, up to the first plan whose days are good.
 */
public final class CarriedOutTest {
    private static final int NONE = WellCourt.NONE;
    private static final int DRINKS = 0;
    private static final int STAYS = 1;
    private static final int GOES = 2;
    private static final int UNDER_WAY = 9;
    private static final int LANDS = 220;

    private final long seed;
    private final int[][] wells = new int[6][];
    private final int[][] herds = new int[4][];
    private final int[][] ways = new int[6][6];
    private String rules = "";
    private int ahead = 0;
    private int draws = 0;

    // what the trial of all cases tells
    private int looks = 0;
    private int far = 0;
    private boolean wanted = false;

    private CarriedOutTest(long seed) {
        this.seed = seed;
    }

    public static void main(String[] args) {
        aPlanIsAsTheDaysComeToBe();
        theFirstPlanOfAll();
        Check.finish();
    }

    /** Each drink of a plan can be drawn on its day, and no herd thirsts. */
    private static void aPlanIsAsTheDaysComeToBe() {
        int found = 0;
        for (int seed = 0; seed < 3 * LANDS; seed++) {
            CarriedOutTest land = random(seed);
            int n = 1 + seed % 14;
            Court x = land.made();
            if (x.plan(n, 20000) == 0) {
                found++;
                Check.due(land + "far", x.far(), n);
                land.carryOut(x, n);
            }
        }
        Check.due("many plans were found", found > LANDS, true);
    }

    /** "The first PLAN all of whose DAYS are good is it", with its looks, and how far any case came. */
    private static void theFirstPlanOfAll() {
        int[] answers = new int[3];
        for (int seed = 0; seed < LANDS; seed++) {
            CarriedOutTest land = random(seed);
            int n = 1 + seed % 6;
            int most = 10 + seed % 7 * 60;
            List<Integer> acts = new ArrayList<>();
            int due = land.isTried(acts, n, most) ? 0 : land.wanted ? 2 : 1;
            Court x = land.made();
            Check.due(land + "plan", x.plan(n, most), due);
            Check.due(land + "looks", x.count(6), land.looks);
            Check.due(land + "far", x.far(), land.far);
            for (int turn = 0; turn < 4 * n; turn++) {
                Check.due(land + "step", x.step(turn % 4, x.count(0) + 1 + turn / 4), due == 0 ? acts.get(turn) : NONE);
            }
            answers[due]++;
        }
        for (int answer = 0; answer < 3; answer++) {
            Check.due("many plans were " + answer, answers[answer] > LANDS / 20, true);
        }
    }

    @Override
    public String toString() {
        return "land " + seed + ": ";
    }

    // ---- lands

    private static CarriedOutTest random(long seed) {
        Random random = new Random(seed);
        CarriedOutTest land = new CarriedOutTest(seed);
        StringBuilder text = new StringBuilder();
        for (int w = 0; w < 6; w++) {
            if (w == 0 || random.nextInt(3) > 0) {
                int cap = 1 + random.nextInt(40);
                land.wells[w] = new int[] {cap, random.nextInt(12), random.nextInt(3) == 0 ? 0 : random.nextInt(cap + 1)};
            }
            if (random.nextInt(8) > 0) {
                text.append("turns ").append(w).append(": ").append(clan(random)).append(" 1,").append(clan(random)).append(" 2;");
            }
            for (int v = 0; v < 6; v++) {
                land.ways[w][v] = w == v || random.nextInt(4) > 0 ? 0 : 1 + random.nextInt(random.nextInt(4) == 0 ? 9 : 2);
            }
        }
        for (int i = random.nextInt(6); i > 0; i--) {
            int w = random.nextInt(6);
            switch (random.nextInt(4)) {
                case 0 -> text.append("drought ").append(w).append(" below ").append(random.nextInt(25)).append(' ').append(clan(random)).append(';');
                case 1 -> text.append("dry ").append(w).append(" to ").append((w + 1 + random.nextInt(5)) % 6).append(';');
                case 2 -> text.append("wed a ").append((char) ('b' + random.nextInt(3))).append(';');
                default -> text.append("guest a at ").append(w).append(" of b 1000;");
            }
        }
        land.rules = text.toString();
        for (int h = 0; h < 4; h++) {
            if (h == seed % 4 || random.nextInt(3) == 0) {
                int w = random.nextInt(6);
                land.herds[h] = new int[] {random.nextInt(3), 1 + random.nextInt(8), 1 + random.nextInt(4), land.wells[w] == null ? 0 : w};
            }
        }
        land.ahead = random.nextInt(4);
        land.draws = random.nextInt(3);
        return land;
    }

    private static char clan(Random random) {
        return (char) ('a' + random.nextInt(3));
    }

    private Court made() {
        Court x = new Court();
        for (int w = 0; w < 6; w++) {
            if (wells[w] != null) {
                x.well(w, wells[w][0], wells[w][1], wells[w][2]);
            }
            for (int v = 0; v < 6; v++) {
                if (ways[w][v] > 0) {
                    x.way(w, v, ways[w][v]);
                }
            }
        }
        Check.due(this + "rights", x.read(rules) >= 0, true);
        x.days(ahead);
        for (int h = 0; h < 4; h++) {
            if (herds[h] != null) {
                Check.due(this + "herd", x.herd(h, herds[h][0], herds[h][1], herds[h][2], herds[h][3]), true);
            }
        }
        x.lend(0, ahead + 2, 0);
        x.lend(1, ahead + 1, 1);
        for (int i = 0; i < draws; i++) {
            x.take(0, i, 3);
            x.draw(0, i, 2);
        }
        return x;
    }

    // ---- a plan carried out

    private void carryOut(Court x, int n) {
        int first = x.count(0) + 1;
        int[] place = new int[4];
        int[] arrives = new int[4];
        int[] drank = new int[4];
        for (int h = 0; h < 4; h++) {
            place[h] = herds[h] == null ? NONE : herds[h][3];
            drank[h] = first - 1;
        }
        for (int day = first; day < first + n; day++) {
            x.days(1);
            for (int h = 0; h < 4; h++) {
                int act = x.step(h, day);
                if (herds[h] == null || arrives[h] > day) {
                    Check.due(this + "nothing is done", act, herds[h] == null ? NONE : UNDER_WAY);
                } else if (act == DRINKS) {
                    Check.due(this + "it is right", x.may(place[h], herds[h][0]), 1);
                    Check.due(this + "it draws", x.draw(place[h], herds[h][0], herds[h][1]), 0);
                    drank[h] = day;
                } else if (act != STAYS) {
                    Check.due(this + "it goes", act >= GOES && act < GOES + 6, true);
                    int days = ways[place[h]][act - GOES];
                    Check.due(this + "there is a way", days > 0, true);
                    place[h] = act - GOES;
                    arrives[h] = day + days;
                }
                Check.due(this + "no herd thirsts", herds[h] == null || day - drank[h] <= herds[h][2], true);
            }
        }
    }

    // ---- all cases, one behind another

    /** The land as it is behind these acts, on real days, with the herd that is next on its day. */
    private final class Case {
        private final Court x = made();
        private final int first = x.count(0) + 1;
        private final int[] place = new int[4];
        private final int[] arrives = new int[4];
        private final int[] drank = new int[4];

        Case(List<Integer> acts) {
            for (int h = 0; h < 4; h++) {
                place[h] = herds[h] == null ? NONE : herds[h][3];
                drank[h] = first - 1;
            }
            for (int turn = 0; turn < acts.size(); turn++) {
                if (turn % 4 == 0) {
                    x.days(1);
                }
                follow(turn % 4, first + turn / 4, acts.get(turn));
            }
        }

        private void follow(int h, int day, int act) {
            if (act == DRINKS) {
                Check.due(CarriedOutTest.this + "it draws", x.draw(place[h], herds[h][0], herds[h][1]), 0);
                drank[h] = day;
            } else if (act >= GOES && act < GOES + 6) {
                arrives[h] = day + ways[place[h]][act - GOES];
                place[h] = act - GOES;
            }
        }

        boolean isGood(int day) {
            for (int h = 0; h < 4; h++) {
                if (herds[h] != null && day - drank[h] > herds[h][2]) {
                    return false;
                }
            }
            return true;
        }

        boolean canDo(int h, int act) {
            if (act == DRINKS) {
                return x.may(place[h], herds[h][0]) == 1 && x.water(place[h], 0) >= herds[h][1];
            }
            return act == STAYS || ways[place[h]][act - GOES] > 0;
        }
    }

    private boolean isTried(List<Integer> acts, int n, int most) {
        int turn = acts.size();
        Case now = new Case(acts);
        int day = now.first + turn / 4;
        if (turn > 0 && turn % 4 == 0) {
            if (!now.isGood(day - 1)) {
                return false;
            }
            far = Math.max(far, turn / 4);
        }
        if (turn == 4 * n) {
            return true;
        }
        int h = turn % 4;
        if (h == 0) {
            now.x.days(1);
        }
        if (herds[h] == null || now.arrives[h] > day) {
            return isTriedWith(acts, herds[h] == null ? NONE : UNDER_WAY, n, most);
        }
        for (int act = DRINKS; act < GOES + 6; act++) {
            if (now.canDo(h, act)) {
                if (looks == most) {
                    wanted = true;
                    return false;
                }
                looks++;
                if (isTriedWith(acts, act, n, most)) {
                    return true;
                }
                if (wanted) {
                    return false;
                }
            }
        }
        return false;
    }

    private boolean isTriedWith(List<Integer> acts, int act, int n, int most) {
        acts.add(act);
        if (isTried(acts, n, most)) {
            return true;
        }
        acts.remove(acts.size() - 1);
        return false;
    }
}
