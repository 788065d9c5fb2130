import java.util.EnumMap;
import java.util.Map;
import java.util.function.ToLongFunction;

/**
 * "A call that throws changes nothing", and so does one that answers NONE, false or why not: of two
 * objects with the same past, one of which was asked for what it refuses, all later answers are alike.
 */
public final class RefusedTest {
    private static final int NONE = WellCourt.NONE;
    private static final int LOW = Integer.MIN_VALUE;
    private static final int HIGH = Integer.MAX_VALUE;
    private static final int[] NO_WELLS = {-1, 6, LOW, HIGH};
    private static final int[] NO_CLANS = NO_WELLS;
    private static final int[] NO_HERDS = {-1, 4, LOW, HIGH};

    private static final Map<Past, String[]> UNASKED = new EnumMap<>(Past.class);

    private RefusedTest() {
    }

    public static void main(String[] args) {
        for (Past past : Past.values()) {
            UNASKED.put(past, new String[Seen.PARTS]);
        }
        everyPartSaysSomething();
        feed();
        end();
        well();
        rights();
        next();
        lend();
        draw();
        take();
        report();
        drawn();
        herd();
        drop();
        way();
        plan();
        questions();
        Check.finish();
    }

    private static Court court(Past past) {
        Court x = new Court();
        past.lead(x);
        return x;
    }

    private static String unasked(Past past, int part) {
        String[] parts = UNASKED.get(past);
        if (parts[part] == null) {
            parts[part] = Seen.part(court(past), part);
        }
        return parts[part];
    }

    private static void refused(Past past, String call, ToLongFunction<Face> asked, long answer) {
        refusedBut(past, call, asked, answer, -1);
    }

    /** One part may be told otherwise by the document. */
    private static void refusedBut(Past past, String call, ToLongFunction<Face> asked, long answer, int but) {
        for (int part = 0; part < Seen.PARTS; part++) {
            Court x = court(past);
            Check.due(past + ", " + call, asked.applyAsLong(x), answer);
            if (part != but) {
                Check.due(past + ", part " + part + " behind " + call, Seen.part(x, part), unasked(past, part));
            }
        }
    }

    /** What is compared must differ from what a new object shows, or it would show no change. */
    private static void everyPartSaysSomething() {
        for (int part = 0; part < Seen.PARTS; part++) {
            boolean ofWellThatNobodyOwns = part / 2 == 5;
            Check.due("part " + part + " is as of a new object", unasked(Past.RICH, part).equals(unasked(Past.NEW, part)), ofWellThatNobodyOwns);
        }
    }

    // ---- Promises 2 to 7

    private static void feed() {
        refused(Past.FULL_TAPE, "feed", x -> x.feed(0x77656420, 0x6120623b, 0, 0, 0), NONE);
        refused(Past.FULL_TAPE, "feed low", x -> x.feed(LOW, LOW, LOW, LOW, LOW), NONE);
    }

    private static void end() {
        for (Past past : Past.values()) {
            int size = court(past).count(5);
            for (int n : new int[] {-1, size + 1, size + 20, 801, LOW, HIGH}) {
                refused(past, "end(" + n + ")", x -> x.end(n) ? 1 : 0, 0);
            }
        }
    }

    private static void well() {
        for (int w : NO_WELLS) {
            refused(Past.RICH, "well(" + w + ")", x -> x.well(w, 10, 1, 1) ? 1 : 0, 0);
        }
        for (int w : new int[] {0, 1, 2, 4}) {
            refused(Past.RICH, "well(" + w + ") again", x -> x.well(w, 10, 1, 1) ? 1 : 0, 0);
            refused(Past.LAST_DAY, "well(" + w + ") again", x -> x.well(w, 10, 1, 1) ? 1 : 0, 0);
        }
        for (Past past : new Past[] {Past.RICH, Past.NEW}) {
            for (int cap : new int[] {0, -1, 1001, LOW, HIGH}) {
                refused(past, "cap " + cap, x -> x.well(5, cap, 1, 0) ? 1 : 0, 0);
            }
            for (int rate : new int[] {-1, 201, LOW, HIGH}) {
                refused(past, "rate " + rate, x -> x.well(5, 10, rate, 1) ? 1 : 0, 0);
            }
            for (int level : new int[] {-1, 11, 1001, LOW, HIGH}) {
                refused(past, "level " + level, x -> x.well(5, 10, 1, level) ? 1 : 0, 0);
            }
        }
    }

    /** "-1 - the place of a FAULT: all stays", but for the tape, which is empty then, and fault(). */
    private static void rights() {
        String[] texts = {"turns 0: f 1; turns 1: f 1; wed f a; drought 0 below 1000 f; dry 1 to 0; guest c at 0 of f 1; #",
            "turns 0: f 1; turns 1: f 1; wed f a; drought 0 below 1000 f", "turns 0: f 1; wed f f;", "wed a b;".repeat(21), "",
            "turns 0: a 1;turns 0: a 1;", "turns 0: f 1,a 1,b 1,c 1,d 1,e 1,f 1,a 1,b 1;"};
        for (Past past : new Past[] {Past.RICH, Past.NO_FAULT, Past.LAST_DAY, Past.FULL_LEDGER, Past.NEW}) {
            for (String text : texts) {
                for (int part = 0; part < Seen.PARTS; part++) {
                    Court x = court(past);
                    Court y = court(past);
                    if (text.isEmpty()) {
                        Check.due("a fault of one byte", x.read("?"), -1);
                    } else {
                        Check.due("a fault", x.read(text) < 0, true);
                    }
                    Check.due("a fault with nothing ahead of it", y.read("#"), -1);
                    if (part == 12) {
                        Check.due("a kind", x.fault() > 0, true);
                        Check.due("the tape", x.count(5), 0);
                        Check.due("the rules", x.count(2), court(past).count(2));
                    } else {
                        Check.due(past + ", part " + part + " behind '" + text + "'", Seen.part(x, part), Seen.part(y, part));
                    }
                    if (part < 12 || part > 12 && part != 16) {
                        Check.due(past + ", part " + part + " with a fault", Seen.part(faulted(past, text), part), unasked(past, part));
                    }
                }
            }
        }
    }

    private static Court faulted(Past past, String text) {
        Court x = court(past);
        Check.due("a fault", x.read(text.isEmpty() ? "?" : text) < 0, true);
        return x;
    }

    private static void next() {
        refused(Past.LAST_DAY, "next", x -> x.next() ? 1 : 0, 0);
    }

    // ---- Promise 11

    private static void lend() {
        int day = court(Past.RICH).count(0);
        for (int wrong : NO_WELLS) {
            refused(Past.RICH, "lend at " + wrong, x -> x.lend(wrong, day + 3, 0), NONE);
            refused(Past.RICH, "lend to " + wrong, x -> x.lend(0, day + 3, wrong), NONE);
        }
        for (int early : new int[] {LOW, -1, 0, day - 1, day}) {
            for (int clan = 0; clan < 3; clan++) {
                int to = clan;
                refused(Past.RICH, "lend " + early, x -> x.lend(0, early, to), NONE);
            }
        }
        for (int late : new int[] {199, 200, HIGH}) {
            refused(Past.RICH, "lend " + late, x -> x.lend(0, late, 1), NONE);
            refused(Past.LAST_DAY, "lend " + late, x -> x.lend(0, late, 1), NONE);
        }
        refused(Past.RICH, "lend a day without owner", x -> x.lend(5, day + 1, 0), NONE);
        refused(Past.RICH, "lend to one that has no day", x -> x.lend(0, day + 1, 5), NONE);
        Court past = court(Past.RICH);
        for (int ahead = 1; ahead < 4; ahead++) {
            int own = day + ahead;
            int owner = past.owner(0, own);
            refused(Past.RICH, "lend to the owner", x -> x.lend(0, own, owner), NONE);
        }
    }

    // ---- Promises 12 to 15

    private static void draw() {
        for (int wrong : NO_WELLS) {
            refused(Past.RICH, "draw at " + wrong, x -> x.draw(wrong, 0, 1), 1);
            refused(Past.RICH, "draw by " + wrong, x -> x.draw(0, wrong, 1), 1);
        }
        refused(Past.RICH, "draw at a well that is not there", x -> x.draw(3, 0, 1), 1);
        for (int amount : new int[] {0, -1, 1001, LOW, HIGH}) {
            refused(Past.RICH, "draw " + amount, x -> x.draw(2, 4, amount), 1);
        }
        refused(Past.FULL_LEDGER, "draw", x -> x.draw(2, 0, 1), 1);
        refused(Past.FULL_LEDGER, "draw as guest", x -> x.draw(2, 1, 1), 1);
        eachStanding(0, 1, 2, (x, w, clan) -> x.draw(w, clan, 1));
        eachStanding(1, 1000, 4, (x, w, clan) -> x.draw(w, clan, 1000));
        eachStanding(2, 1000, 3, (x, w, clan) -> x.draw(w, clan, 1000));
    }

    private interface Drawing {
        int by(Face x, int w, int clan);
    }

    /** All wells and clans of the rich past with a standing of this kind, where the level has less than so much. */
    private static void eachStanding(int may, int amount, int answer, Drawing drawing) {
        int found = 0;
        for (int w = 0; w < 6; w++) {
            for (int clan = 0; clan < 6; clan++) {
                int at = w;
                int by = clan;
                Court seen = court(Past.RICH);
                if (seen.may(w, clan) == may && (may != 1 || seen.water(w, 0) < amount)) {
                    found++;
                    refused(Past.RICH, "drawing at " + w + " by " + clan, x -> drawing.by(x, at, by), answer);
                }
            }
        }
        Check.due("there are some of standing " + may, found > 0, true);
    }

    private static void take() {
        for (int wrong : NO_WELLS) {
            refused(Past.RICH, "take at " + wrong, x -> x.take(wrong, 5, 1), 1);
            refused(Past.RICH, "take by " + wrong, x -> x.take(0, wrong, 1), 1);
        }
        refused(Past.RICH, "take at a well that is not there", x -> x.take(3, 5, 1), 1);
        for (int amount : new int[] {0, -1, 1001, LOW, HIGH}) {
            refused(Past.RICH, "take " + amount, x -> x.take(0, 5, amount), 1);
        }
        refused(Past.FULL_LEDGER, "take", x -> x.take(2, 5, 1), 1);
        refused(Past.FULL_LEDGER, "take by the owner", x -> x.take(2, 0, 1), 1);
        eachStanding(1, 1001, 5, (x, w, clan) -> x.take(w, clan, 1));
        eachStanding(0, 0, 4, (x, w, clan) -> x.take(w, clan, x.water(w, 0) + 1));
        eachStanding(2, 0, 4, (x, w, clan) -> x.take(w, clan, x.water(w, 0) + 1));
    }

    private static void report() {
        for (Past past : Past.values()) {
            int draws = court(past).count(4);
            for (int k : new int[] {-1, draws, draws + 1, 300, LOW, HIGH}) {
                refused(past, "report " + k, x -> x.report(k) ? 1 : 0, 0);
            }
        }
        refused(Past.RICH, "report of a draw", x -> x.report(0) ? 1 : 0, 0);
        refused(Past.RICH, "report again", x -> x.report(1) ? 1 : 0, 0);
        refused(Past.FULL_LEDGER, "report of a draw", x -> x.report(297) ? 1 : 0, 0);
    }

    private static void drawn() {
        for (Past past : Past.values()) {
            int draws = court(past).count(4);
            for (int k : new int[] {-1, draws, 300, LOW, HIGH}) {
                refused(past, "drawn " + k, x -> x.drawn(k, 0), Face.THROWS);
            }
        }
        for (int what : new int[] {-1, 6, LOW, HIGH}) {
            refused(Past.RICH, "drawn, what " + what, x -> x.drawn(0, what), Face.THROWS);
        }
    }

    // ---- Promises 17 to 20

    private static void herd() {
        for (int h = 0; h < 4; h++) {
            int which = h;
            for (int clan : NO_CLANS) {
                refused(Past.RICH, "herd of " + clan, x -> x.herd(which, clan, 1, 1, 0) ? 1 : 0, 0);
            }
            for (int draw : new int[] {0, 101, -1, LOW, HIGH}) {
                refused(Past.RICH, "herd that draws " + draw, x -> x.herd(which, 0, draw, 1, 0) ? 1 : 0, 0);
            }
            for (int last : new int[] {0, 10, -1, LOW, HIGH}) {
                refused(Past.RICH, "herd that lasts " + last, x -> x.herd(which, 0, 1, last, 0) ? 1 : 0, 0);
            }
            for (int w : new int[] {-1, 3, 5, 6, LOW, HIGH}) {
                refused(Past.RICH, "herd at " + w, x -> x.herd(which, 0, 1, 1, w) ? 1 : 0, 0);
            }
        }
        for (int h : NO_HERDS) {
            refused(Past.RICH, "herd " + h, x -> x.herd(h, 0, 1, 1, 0) ? 1 : 0, 0);
        }
    }

    private static void drop() {
        for (int h : NO_HERDS) {
            refused(Past.RICH, "drop " + h, x -> x.drop(h) ? 1 : 0, 0);
        }
        refused(Past.RICH, "drop one that is not there", x -> x.drop(2) ? 1 : 0, 0);
        for (int h = 0; h < 4; h++) {
            int which = h;
            refused(Past.NEW, "drop " + h, x -> x.drop(which) ? 1 : 0, 0);
        }
    }

    private static void way() {
        for (int wrong : NO_WELLS) {
            refused(Past.RICH, "way from " + wrong, x -> x.way(wrong, 0, 1) ? 1 : 0, 0);
            refused(Past.RICH, "way to " + wrong, x -> x.way(0, wrong, 1) ? 1 : 0, 0);
        }
        for (int w = 0; w < 6; w++) {
            int both = w;
            refused(Past.RICH, "way to itself", x -> x.way(both, both, 1) ? 1 : 0, 0);
        }
        for (int days : new int[] {-1, 10, LOW, HIGH}) {
            refused(Past.RICH, "way of " + days, x -> x.way(0, 2, days) ? 1 : 0, 0);
            refused(Past.RICH, "way of " + days, x -> x.way(0, 4, days) ? 1 : 0, 0);
        }
    }

    /** A plan() that is NONE is the latest one, so its LOOKS are told (part 12); one that throws is none at all. */
    private static void plan() {
        for (Past past : Past.values()) {
            for (int looks : new int[] {0, -1, 50001, LOW, HIGH}) {
                for (int n : new int[] {0, 1, 14, 15}) {
                    refused(past, "plan(" + n + ", " + looks + ")", x -> x.plan(n, looks), Face.THROWS);
                }
            }
            for (int n : new int[] {0, -1, 15, 200, LOW, HIGH}) {
                refusedBut(past, "plan(" + n + ")", x -> x.plan(n, 9), NONE, 12);
                Court x = court(past);
                int far = x.far();
                Check.due("plan(" + n + ")", x.plan(n, 9), NONE);
                Check.due("far stays", x.far(), far);
            }
        }
        refusedBut(Past.LAST_DAY, "plan behind the last day", x -> x.plan(1, 9), NONE, 12);
        refusedBut(Past.NEW, "plan without a herd", x -> x.plan(1, 9), NONE, 12);
    }

    // ---- what only asks

    /** A question changes nothing, whatever it is about. */
    private static void questions() {
        for (Past past : Past.values()) {
            for (int number : new int[] {-1, 0, 3, 6, 200, LOW, HIGH}) {
                for (int part = 0; part < Seen.PARTS; part++) {
                    Court x = court(past);
                    x.water(number, number);
                    x.owner(number, number);
                    x.may(number, number);
                    x.judge(number, number, number, number, number);
                    x.step(number, number);
                    x.count(number);
                    x.fault();
                    x.far();
                    Check.due(past + ", part " + part + " behind questions of " + number, Seen.part(x, part), unasked(past, part));
                }
            }
        }
    }
}
