/** Promises 20 to 23: plans, their steps, their looks and how far they came. */
public final class PlanTest {
    private static final int NONE = WellCourt.NONE;

    public static void main(String[] args) {
        limits();
        wrongInputs();
        drinksFirst();
        looksOfOneHerd();
        cutAtEachLook();
        underWay();
        acrossAWellThatIsNotThere();
        noGuests();
        kinAndDry();
        droughtOfThePlan();
        herdsShareWater();
        waterComesBack();
        lentDays();
        realLevelIsWhereItBegins();
        stepsStay();
        farInSomeCase();
        nothingIsChanged();
        theLongest();
        Check.finish();
    }

    private static void due(String call, long got, long want) {
        Check.due(call, got, want);
    }

    private static void plan(Court x, int n, int looks, long want) {
        due("plan " + n + " with " + looks, x.plan(n, looks), want);
    }

    private static void steps(Court x, int h, int from, String want) {
        for (int i = 0; i < want.length(); i++) {
            due("step of " + h + " on " + (from + i), x.step(h, from + i), want.charAt(i) - '0');
        }
    }

    private static Court oneHerd(String text, int level, int draw, int last) {
        Court x = Court.with(text);
        x.well(0, 1000, 0, level);
        Check.due("herd", x.herd(0, 0, draw, last, 0), true);
        return x;
    }

    private static void limits() {
        Court x = oneHerd("turns 0: a 1;", 1000, 1, 1);
        plan(x, 1, 1, 0);
        plan(x, 14, 14, 0);
        plan(x, 14, 50000, 0);
        plan(x, 15, 50000, NONE);
        plan(x, 0, 50000, NONE);
        plan(x, -1, 50000, NONE);
        plan(x, Integer.MAX_VALUE, 50000, NONE);
        plan(x, Integer.MIN_VALUE, 50000, NONE);
        plan(x, 1, 0, Face.THROWS);
        plan(x, 1, -1, Face.THROWS);
        plan(x, 1, 50001, Face.THROWS);
        plan(x, 1, Integer.MAX_VALUE, Face.THROWS);
        plan(x, 1, Integer.MIN_VALUE, Face.THROWS);
        x.days(185);
        x.herd(0, 0, 1, 1, 0);
        plan(x, 14, 50000, 0);
        due("the last day", x.step(0, 199), 0);
        due("no such day", x.step(0, 200), NONE);
        x.days(1);
        x.herd(0, 0, 1, 1, 0);
        plan(x, 14, 50000, NONE);
        plan(x, 13, 50000, 0);
        x.days(13);
        x.herd(0, 0, 1, 1, 0);
        plan(x, 1, 1, NONE);
    }

    private static void wrongInputs() {
        Court x = oneHerd("turns 0: a 1;", 5, 5, 1);
        // 0 1 1(bad), 1 0 1 1(bad), 1 1(bad)
        plan(x, 4, 100, 1);
        due("looks", x.count(6), 8);
        due("far", x.far(), 3);
        plan(x, 1, 0, Face.THROWS);
        plan(x, 15, 0, Face.THROWS);
        due("a throw leaves the looks", x.count(6), 8);
        due("a throw leaves far", x.far(), 3);
        plan(x, 15, 1, NONE);
        due("far of the latest that was not NONE", x.far(), 3);
        due("no looks in a plan that was NONE", x.count(6), 0);
        plan(x, 4, 2, 2);
        due("far", x.far(), 2);
        due("looks", x.count(6), 2);
        due("none was found", x.step(0, 1), NONE);
    }

    private static void drinksFirst() {
        Court x = oneHerd("turns 0: a 1, b 1;", 1000, 10, 2);
        plan(x, 5, 100, 0);
        steps(x, 0, 1, "10101");
        due("looks", x.count(6), 5);
        due("far", x.far(), 5);
        due("no such herd", x.step(1, 1), NONE);
        due("no such herd", x.step(-1, 1), NONE);
        due("no such herd", x.step(4, 1), NONE);
        due("ahead", x.step(0, 0), NONE);
        due("behind", x.step(0, 6), NONE);
        due("low", x.step(0, Integer.MIN_VALUE), NONE);
        due("high", x.step(0, Integer.MAX_VALUE), NONE);
    }

    /** Water for one drink, which lasts to the end of the second day behind it. */
    private static void looksOfOneHerd() {
        Court x = oneHerd("turns 0: a 1;", 5, 5, 2);
        plan(x, 3, 100, 0);
        steps(x, 0, 1, "011");
        due("looks", x.count(6), 3);
        // 0 1 1 1(bad), 1 0 1 1
        plan(x, 4, 100, 0);
        steps(x, 0, 1, "1011");
        due("looks", x.count(6), 8);
        due("far", x.far(), 4);
        // 0 1 1 1(bad), 1 0 1 1 1(bad), 1 1 0 1 1
        plan(x, 5, 100, 0);
        steps(x, 0, 1, "11011");
        due("looks", x.count(6), 13);
        // .. 1 1 0 1 1 1(bad), 1 1 1(bad)
        plan(x, 6, 100, 1);
        due("looks", x.count(6), 15);
        due("far", x.far(), 5);
        steps(x, 0, 1, "11011");
    }

    private static void cutAtEachLook() {
        Court x = oneHerd("turns 0: a 1;", 5, 5, 2);
        for (int looks = 1; looks < 8; looks++) {
            plan(x, 4, looks, 2);
            due("looks", x.count(6), looks);
            due("far", x.far(), Math.min(looks, 3));
            due("none found", x.step(0, 1), NONE);
        }
        plan(x, 4, 8, 0);
        due("looks", x.count(6), 8);
        plan(x, 6, 15, 1);
        due("looks", x.count(6), 15);
        plan(x, 6, 14, 2);
        due("looks", x.count(6), 14);
    }

    private static void underWay() {
        Court x = Court.with("turns 5: a 1;");
        x.well(0, 10, 0, 0);
        x.well(5, 1000, 0, 1000);
        x.herd(2, 0, 100, 3, 0);
        x.way(0, 5, 3);
        plan(x, 6, 50000, 0);
        steps(x, 2, 1, "799000");
        x.way(0, 5, 4);
        plan(x, 4, 50000, 1);
        due("far", x.far(), 3);
        // each start of the way is a look, a day under way is none: 1 1 1 1(bad) 7(bad), 7, 7, 7
        due("looks", x.count(6), 8);
        x.way(0, 5, 1);
        plan(x, 5, 50000, 0);
        steps(x, 2, 1, "11700");
        x.way(0, 5, 9);
        plan(x, 3, 50000, 0);
        steps(x, 2, 1, "111");
        due("far", x.far(), 3);
    }

    private static void acrossAWellThatIsNotThere() {
        Court x = Court.with("turns 2: a 1; turns 1: a 1;");
        x.well(0, 10, 0, 0);
        x.well(2, 100, 0, 100);
        x.herd(0, 0, 1, 2, 0);
        x.way(0, 1, 1);
        x.way(1, 2, 1);
        plan(x, 4, 50000, 0);
        steps(x, 0, 1, "3400");
    }

    private static void noGuests() {
        Court x = Court.with("turns 0: b 1; guest a at 0 of b 1000;");
        x.well(0, 1000, 0, 1000);
        x.herd(0, 0, 1, 1, 0);
        due("a guest", x.may(0, 0), 2);
        plan(x, 1, 10, 0);
        steps(x, 0, 1, "1");
        plan(x, 2, 10, 1);
    }

    private static void kinAndDry() {
        Court x = Court.with("turns 0: b 1; turns 1: c 1; wed a b; dry 1 to 0;");
        x.well(0, 1000, 0, 1000);
        x.well(1, 1000, 0, 2);
        x.herd(0, 0, 1, 1, 0);
        x.herd(1, 2, 1, 1, 1);
        x.way(1, 0, 1);
        plan(x, 3, 50000, 0);
        steps(x, 0, 1, "000");
        steps(x, 1, 1, "001");
        // the herd has drunk its own well dry, which gives it a right at the other one
        plan(x, 4, 50000, 0);
        steps(x, 0, 1, "0000");
        steps(x, 1, 1, "0020");
        x.read("turns 0: b 1; turns 1: c 1; wed a b; dry 0 to 1;");
        plan(x, 6, 50000, 1);
        due("far", x.far(), 5);
    }

    private static void droughtOfThePlan() {
        Court x = Court.with("turns 0: a 1; drought 0 below 50 b;");
        x.well(0, 1000, 5, 50);
        x.herd(0, 0, 20, 1, 0);
        // a drink on the first morning, 55, makes the next two 40 and 45: b owns them
        plan(x, 2, 100, 0);
        steps(x, 0, 1, "01");
        // a drink on the second, 60, makes the third 45 and the fourth 50, which is not below 50
        plan(x, 5, 100, 0);
        steps(x, 0, 1, "10101");
        plan(x, 6, 100, 1);
        due("far", x.far(), 5);
        due("the owner of the real day", x.owner(0, 2), 0);
    }

    private static void herdsShareWater() {
        Court x = Court.with("turns 0: a 1;");
        x.well(0, 100, 10, 0);
        x.herd(1, 0, 10, 2, 0);
        x.herd(3, 0, 10, 2, 0);
        plan(x, 4, 50000, 0);
        steps(x, 1, 1, "0010");
        steps(x, 3, 1, "1101");
        // 2 and 2, on the third day 0 1(bad) and 1 0, on the fourth 2
        due("looks", x.count(6), 10);
        due("not there", x.step(0, 1), NONE);
        due("not there", x.step(2, 1), NONE);
        x.herd(0, 0, 10, 2, 0);
        plan(x, 4, 50000, 0);
        x.herd(2, 0, 10, 2, 0);
        plan(x, 3, 50000, 1);
        due("far", x.far(), 2);
    }

    /** What the last herd drank on a bad day is there again for what it does next. */
    private static void waterComesBack() {
        Court x = Court.with("turns 0: a 1;");
        x.well(0, 100, 0, 30);
        x.well(1, 100, 0, 0);
        x.way(1, 0, 1);
        x.herd(0, 0, 10, 1, 1);
        x.herd(3, 0, 10, 2, 0);
        // herd 0 must go on the first day; the bad second day is tried by all that herd 3 can do
        plan(x, 3, 50000, 0);
        steps(x, 0, 1, "201");
        steps(x, 3, 1, "001");
        // 1 and 0; 1(bad) and 0, 1; 2(bad) and 0, 1; on the first day 3 stays, the same again;
        // 0 goes, 3 drinks; two drinks; no water: two stay
        due("looks", x.count(6), 2 + 3 + 3 + 1 + 3 + 3 + 2 + 2 + 2);
    }

    private static void lentDays() {
        Court x = oneHerd("turns 0: a 1, b 3;", 1000, 1, 3);
        plan(x, 8, 50000, 0);
        steps(x, 0, 1, "11101110");
        due("lend", x.lend(0, 4, 1), 5);
        due("owner", x.owner(0, 5), 0);
        plan(x, 4, 50000, 1);
        due("lend", x.lend(0, 3, 0), 5);
        plan(x, 4, 50000, 0);
        steps(x, 0, 1, "1101");
    }

    private static void realLevelIsWhereItBegins() {
        Court x = Court.with("turns 0: a 1;");
        x.well(0, 1000, 5, 100);
        x.herd(0, 0, 50, 1, 0);
        plan(x, 2, 100, 0);
        x.take(0, 1, 96);
        plan(x, 1, 100, 0);
        steps(x, 0, 1, "1");
        plan(x, 2, 100, 1);
        x.herd(0, 0, 9, 1, 0);
        plan(x, 1, 100, 0);
        steps(x, 0, 1, "0");
        x.herd(0, 0, 10, 1, 0);
        plan(x, 1, 100, 0);
        steps(x, 0, 1, "1");
    }

    private static void stepsStay() {
        Court x = oneHerd("turns 0: a 1;", 100, 10, 2);
        plan(x, 3, 100, 0);
        steps(x, 0, 1, "000");
        x.herd(1, 1, 1, 1, 0);
        plan(x, 2, 100, 1);
        steps(x, 0, 1, "000");
        plan(x, 3, 1, 2);
        plan(x, 15, 1, NONE);
        plan(x, 3, 0, Face.THROWS);
        steps(x, 0, 1, "000");
        due("not planned then", x.step(1, 1), NONE);
        due("drop", x.drop(0) ? 1 : 0, 1);
        steps(x, 0, 1, "000");
        x.days(2);
        steps(x, 0, 1, "000");
        x.herd(1, 1, 1, 1, 0);
        plan(x, 1, 100, 0);
        due("now another plan", x.step(0, 3), NONE);
        due("now another plan", x.step(1, 3), 1);
        due("old days are gone", x.step(1, 2), NONE);
        due("only one day", x.step(1, 4), NONE);
    }

    private static void farInSomeCase() {
        Court x = Court.with("turns 0: b 1; turns 1: a 1; turns 2: a 1;");
        x.well(0, 10, 0, 0);
        x.well(1, 10, 0, 10);
        x.well(2, 10, 0, 10);
        x.herd(0, 0, 10, 2, 0);
        x.way(0, 1, 1);
        x.way(0, 2, 1);
        x.way(1, 2, 1);
        plan(x, 9, 50000, 1);
        due("far", x.far(), 8);
        x.herd(0, 0, 10, 1, 0);
        x.days(3);
        plan(x, 9, 50000, 1);
        due("the first day was never good", x.far(), 0);
        due("its looks", x.count(6), 3);
    }

    private static void nothingIsChanged() {
        Court x = Court.with("turns 0: a 1; drought 0 below 20 c;");
        x.well(0, 100, 0, 40);
        x.herd(0, 0, 10, 1, 0);
        plan(x, 3, 100, 0);
        due("level", x.water(0, 0), 40);
        due("morning", x.water(0, 1), 40);
        due("DAY", x.count(0), 0);
        due("draws", x.count(4), 0);
        due("owner", x.owner(0, 3), 0);
        plan(x, 3, 100, 0);
        steps(x, 0, 1, "000");
        due("looks", x.count(6), 3);
    }

    private static void theLongest() {
        Court x = Court.with("turns 0: a 1;");
        for (int w = 0; w < 6; w++) {
            x.well(w, 1000, 0, w == 0 ? 1000 : 0);
            for (int v = 0; v < 6; v++) {
                x.way(w, v, w == v ? 0 : 1);
            }
        }
        for (int h = 0; h < 4; h++) {
            x.herd(h, h == 3 ? 1 : 0, 1, 9, 0);
        }
        plan(x, 10, 50000, 2);
        due("looks", x.count(6), 50000);
        due("far", x.far(), 9);
        plan(x, 9, 36, 0);
        plan(x, 9, 35, 2);
    }
}
