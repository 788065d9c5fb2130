import java.util.function.ToLongFunction;

/**
 * Every call with every choice of numbers on either side of what is as told, and far from it, behind
 * each past, against the model: the answer, and the counts behind it.
 */
public final class WildTest {
    private static final int LOW = Integer.MIN_VALUE;
    private static final int HIGH = Integer.MAX_VALUE;
    private static final int[] WELLS = {LOW, -1, 0, 1, 2, 3, 4, 5, 6, HIGH};
    private static final int[] CLANS = {LOW, -1, 0, 1, 2, 3, 4, 5, 6, HIGH};
    private static final int[] HERDS = {LOW, -1, 0, 2, 3, 4, HIGH};
    private static final int[] DAYS = {LOW, -1, 0, 1, 3, 4, 5, 6, 7, 8, 9, 198, 199, 200, HIGH};
    private static final int[] WHATS = {LOW, -1, 0, 1, 2, 3, 4, 5, 6, 7, HIGH};
    private static final int[] AMOUNTS = {LOW, -1, 0, 1, 5, 15, 16, 999, 1000, 1001, HIGH};

    private final Past past;
    private Court court;
    private Model model;

    private WildTest(Past past) {
        this.past = past;
        anew();
    }

    public static void main(String[] args) {
        for (Past past : Past.values()) {
            WildTest wild = new WildTest(past);
            wild.questions();
            wild.drawing();
            wild.tape();
            wild.plans();
        }
        for (Past past : new Past[] {Past.RICH, Past.NEW}) {
            WildTest wild = new WildTest(past);
            wild.wells();
            wild.herding();
        }
        Check.finish();
    }

    private void anew() {
        court = new Court();
        model = new Model();
        past.lead(court);
        past.lead(model);
    }

    private void due(String call, ToLongFunction<Face> asked) {
        if (court.calls() > Court.MOST_CALLS - 10) {
            anew();
        }
        Check.due(past + ", " + call, asked.applyAsLong(court), asked.applyAsLong(model));
    }

    /** One that may change something: asked of new objects, with what it changes behind it. */
    private void dueAlone(String call, ToLongFunction<Face> asked) {
        anew();
        due(call, asked);
        for (int what = 0; what < 7; what++) {
            int count = what;
            due("count " + what + " behind " + call, x -> x.count(count));
        }
    }

    private void questions() {
        for (int what : WHATS) {
            due("count " + what, x -> x.count(what));
            for (int w : WELLS) {
                due("water " + w + " " + what, x -> x.water(w, what));
            }
            for (int k : DAYS) {
                due("drawn " + k + " " + what, x -> x.drawn(k, what));
            }
            for (int clan : CLANS) {
                for (int from : DAYS) {
                    for (int day : DAYS) {
                        due("judge " + clan + " " + from + " .. on " + day + " " + what, x -> x.judge(clan, from, 199, day, what));
                        due("judge " + clan + " .. " + from + " on " + day + " " + what, x -> x.judge(clan, 0, from, day, what));
                    }
                }
            }
        }
        for (int w : WELLS) {
            for (int clan : CLANS) {
                due("may " + w + " " + clan, x -> x.may(w, clan));
            }
            for (int day : DAYS) {
                due("owner " + w + " " + day, x -> x.owner(w, day));
            }
        }
        for (int h : HERDS) {
            for (int day : DAYS) {
                due("step " + h + " " + day, x -> x.step(h, day));
            }
        }
    }

    private void drawing() {
        for (int w : WELLS) {
            for (int clan : CLANS) {
                for (int amount : AMOUNTS) {
                    dueAlone("draw " + w + " " + clan + " " + amount, x -> x.draw(w, clan, amount));
                    due("level", x -> x.water(w, 0));
                    dueAlone("take " + w + " " + clan + " " + amount, x -> x.take(w, clan, amount));
                    due("level", x -> x.water(w, 0));
                }
                for (int day : DAYS) {
                    dueAlone("lend " + w + " " + day + " " + clan, x -> x.lend(w, day, clan));
                    due("lent", x -> x.owner(w, day));
                }
            }
        }
        for (int k : new int[] {LOW, -1, 0, 1, 2, 3, 4, 5, 6, 298, 299, 300, HIGH}) {
            dueAlone("report " + k, x -> x.report(k) ? 1 : 0);
            due("known", x -> x.drawn(k, 5));
        }
    }

    private void wells() {
        for (int w : new int[] {LOW, -1, 0, 3, 5, 6, HIGH}) {
            for (int cap : new int[] {LOW, -1, 0, 1, 2, 1000, 1001, HIGH}) {
                for (int rate : new int[] {LOW, -1, 0, 1, 200, 201, HIGH}) {
                    for (int level : new int[] {LOW, -1, 0, 1, 2, 3, 1000, 1001, HIGH}) {
                        dueAlone("well " + w + " " + cap + " " + rate + " " + level, x -> x.well(w, cap, rate, level) ? 1 : 0);
                        due("morning", x -> x.water(w, 1));
                        due("next", x -> x.next() ? 1 : 0);
                        due("level", x -> x.water(w, 0));
                        due("standing", x -> x.may(w, 0));
                    }
                }
            }
        }
    }

    private void tape() {
        for (int n : new int[] {LOW, -1, 0, 1, 19, 20, 21, 63, 64, 65, 779, 780, 781, 799, 800, 801, HIGH}) {
            dueAlone("end " + n, x -> x.end(n) ? 1 : 0);
            due("feed behind end " + n, x -> x.feed(n, LOW, HIGH, -1, 0x3b3a2c20));
            due("rights behind end " + n, x -> x.rights());
            due("fault behind end " + n, x -> x.fault());
        }
    }

    private void herding() {
        for (int h : HERDS) {
            for (int clan : new int[] {LOW, -1, 0, 5, 6, HIGH}) {
                for (int draw : new int[] {LOW, -1, 0, 1, 100, 101, HIGH}) {
                    for (int last : new int[] {LOW, -1, 0, 1, 9, 10, HIGH}) {
                        for (int w : new int[] {LOW, -1, 0, 3, 4, 5, 6, HIGH}) {
                            dueAlone("herd " + h + " " + clan + " " + draw + " " + last + " " + w, x -> x.herd(h, clan, draw, last, w) ? 1 : 0);
                        }
                    }
                }
            }
            dueAlone("drop " + h, x -> x.drop(h) ? 1 : 0);
            due("plan behind it", x -> x.plan(3, 200));
            due("looks behind it", x -> x.count(6));
        }
        for (int u : WELLS) {
            for (int v : WELLS) {
                for (int days : new int[] {LOW, -1, 0, 1, 2, 9, 10, HIGH}) {
                    dueAlone("way " + u + " " + v + " " + days, x -> x.way(u, v, days) ? 1 : 0);
                    due("plan behind it", x -> x.plan(3, 200));
                    due("looks behind it", x -> x.count(6));
                }
            }
        }
    }

    private void plans() {
        for (int n : new int[] {LOW, -1, 0, 1, 2, 3, 4, 5, 13, 14, 15, 199, HIGH}) {
            for (int looks : new int[] {LOW, -1, 0, 1, 2, 3, 8, 9, 10, 50, 2000, 50000, 50001, HIGH}) {
                dueAlone("plan " + n + " " + looks, x -> x.plan(n, looks));
                due("far behind it", x -> x.far());
                for (int h = 0; h < 4; h++) {
                    int herd = h;
                    for (int day : DAYS) {
                        due("step behind it", x -> x.step(herd, day));
                    }
                }
            }
        }
    }
}
