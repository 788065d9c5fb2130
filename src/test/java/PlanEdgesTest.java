/**
 * The sentences on herds, ways and plans that name a boundary (Terms ==== 3., promises 17 to 23):
 * the last value that is as told, and the first that is not.
 */
public final class PlanEdgesTest {
    private static final int NONE = WellCourt.NONE;
    private static final int LOW = Integer.MIN_VALUE;
    private static final int HIGH = Integer.MAX_VALUE;
    private static final int MOST_LOOKS = 50000;

    public static void main(String[] args) {
        herdsAreFour();
        clansOfHerds();
        drawIsOneToAHundred();
        lastIsOneToNine();
        herdsAreAtWellsThatAreThere();
        herdAnew();
        herdsDrankOnDay();
        eachHerdAtEachWell();
        dropWhatIsThere();
        waysBetweenWells();
        waysAreOneToNineDays();
        waysEachByItself();
        waysOfWellsThatAreNotThere();
        eachWayOfThirty();
        planOfOneToFourteenDays();
        planUpToDay199();
        planWithoutHerds();
        looksAreUpToFiftyThousand();
        oneLookTooFew();
        noPlanAfterAllLooks();
        everyCaseIsLookedAt();
        drinksIfLevelHasItsDraw();
        drinksIfRightAndNoGuest();
        staysBehindDrinks();
        goesToTheFirstWellWithAWay();
        goesForSoManyDays();
        underWayIsNoLook();
        whatCantBeDoneIsNoLook();
        goodUpToLast();
        backToTheLatestHerd();
        whatWasDrunkOnABadDayComesBack();
        herdByHerd();
        fromTheLevelOfDay();
        levelsGoOnUpToCap();
        ownersGoOn();
        droughtsGoOn();
        stepOfHerdsAndDays();
        stepAheadOfAny();
        stepOfTheLatestThatWasFound();
        farAheadOfAny();
        farOfTheLatestThatWasNotNone();
        farUpToN();
        countOfWhat();
        looksOfTheLatest();
        Check.finish();
    }

    private static void due(String call, long got, long want) {
        Check.due(call, got, want);
    }

    private static void due(String call, boolean got, boolean want) {
        Check.due(call, got, want);
    }

    private static void steps(Court x, int h, int from, String want) {
        for (int i = 0; i < want.length(); i++) {
            due("step of " + h + " on " + (from + i), x.step(h, from + i), want.charAt(i) - '0');
        }
    }

    /** The answer, the looks and how far it came. */
    private static void plan(Court x, int n, int looks, int want, int wantLooks, int wantFar) {
        String call = "plan(" + n + ", " + looks + ")";
        due(call, x.plan(n, looks), want);
        due("looks of " + call, x.count(6), wantLooks);
        due("far of " + call, x.far(), wantFar);
    }

    /** Well 0 with as much water as can be, a's each day; well 1 empty and nobody's. */
    private static Court land() {
        Court x = Court.with("turns 0: a 1;");
        x.well(0, 1000, 200, 1000);
        x.well(1, 1000, 0, 0);
        return x;
    }

    private static Court landWithHerd(int last) {
        Court x = land();
        due("herd", x.herd(0, 0, 1, last, 0), true);
        return x;
    }

    /** A herd that never can drink, with nothing to do but to stay. */
    private static Court dryHerd(int last) {
        Court x = land();
        due("herd", x.herd(0, 0, 1, last, 1), true);
        return x;
    }

    // ---- Promise 17

    /** "HERD h (0 to 3; anew, if it is there)" */
    private static void herdsAreFour() {
        Court x = land();
        for (int h : new int[] {-1, 4, LOW, HIGH}) {
            due("herd " + h, x.herd(h, 0, 1, 1, 0), false);
        }
        due("herds", x.count(3), 0);
        due("no herd", x.plan(1, 1), NONE);
        for (int h = 0; h < 4; h++) {
            due("herd " + h, x.herd(h, 0, 1, 1, 0), true);
            due("herds", x.count(3), h + 1);
        }
        due("herd 4", x.herd(4, 0, 1, 1, 0), false);
        due("herds", x.count(3), 4);
    }

    private static void clansOfHerds() {
        Court x = Court.with("turns 0: f 1;");
        x.well(0, 10, 0, 10);
        for (int clan : new int[] {-1, 6, LOW, HIGH}) {
            due("clan " + clan, x.herd(0, clan, 1, 1, 0), false);
        }
        due("herds", x.count(3), 0);
        due("clan f", x.herd(0, 5, 1, 1, 0), true);
        plan(x, 2, 9, 0, 2, 2);
        due("clan a", x.herd(0, 0, 1, 1, 0), true);
        plan(x, 2, 9, 1, 2, 1);
    }

    /** "what it draws (DRAW, 1 to 100)" */
    private static void drawIsOneToAHundred() {
        Court x = land();
        for (int draw : new int[] {0, -1, 101, LOW, HIGH}) {
            due("draw " + draw, x.herd(0, 0, draw, 1, 0), false);
        }
        due("herds", x.count(3), 0);
        due("draw 1", x.herd(0, 0, 1, 1, 0), true);
        due("draw 100", x.herd(1, 0, 100, 1, 0), true);
        due("herds", x.count(3), 2);
    }

    /** "how many DAYS at most from one drink to the next (LAST, 1 to 9)" */
    private static void lastIsOneToNine() {
        Court x = land();
        for (int last : new int[] {0, -1, 10, LOW, HIGH}) {
            due("last " + last, x.herd(0, 0, 1, last, 0), false);
        }
        due("herds", x.count(3), 0);
        due("last 1", x.herd(0, 0, 1, 1, 0), true);
        due("last 9", x.herd(1, 0, 1, 9, 0), true);
        due("herds", x.count(3), 2);
    }

    /** "is at WELL w (that is there)" */
    private static void herdsAreAtWellsThatAreThere() {
        Court x = new Court();
        x.well(0, 10, 0, 10);
        x.well(5, 10, 0, 10);
        for (int w : new int[] {-1, 1, 4, 6, LOW, HIGH}) {
            due("well " + w, x.herd(0, 0, 1, 1, w), false);
        }
        due("herds", x.count(3), 0);
        due("well 0", x.herd(0, 0, 1, 1, 0), true);
        due("well 5", x.herd(1, 0, 1, 1, 5), true);
        x.well(4, 10, 0, 10);
        due("well 4", x.herd(2, 0, 1, 1, 4), true);
    }

    /** "anew, if it is there": all of it, and not if a number is not as told */
    private static void herdAnew() {
        Court x = dryHerd(1);
        plan(x, 3, 9, 1, 2, 1);
        due("not as told", x.herd(0, 0, 1, 10, 0), false);
        due("not as told", x.herd(0, 0, 101, 9, 0), false);
        due("not as told", x.herd(0, 6, 1, 9, 0), false);
        due("not as told", x.herd(0, 0, 1, 9, 2), false);
        plan(x, 3, 9, 1, 2, 1);
        due("another last", x.herd(0, 0, 1, 2, 1), true);
        plan(x, 3, 9, 1, 3, 2);
        due("another well", x.herd(0, 0, 1, 1, 0), true);
        plan(x, 3, 9, 0, 3, 3);
        due("another clan", x.herd(0, 1, 1, 1, 0), true);
        plan(x, 3, 9, 1, 2, 1);
        due("herds", x.count(3), 1);
    }

    /** "and drank on DAY" */
    private static void herdsDrankOnDay() {
        Court x = dryHerd(3);
        plan(x, 3, 9, 0, 3, 3);
        plan(x, 4, 9, 1, 4, 3);
        x.days(1);
        plan(x, 2, 9, 0, 2, 2);
        plan(x, 3, 9, 1, 3, 2);
        x.days(2);
        plan(x, 1, 9, 1, 1, 0);
        x.days(9);
        plan(x, 1, 9, 1, 1, 0);
        due("anew", x.herd(0, 0, 1, 3, 1), true);
        plan(x, 3, 9, 0, 3, 3);
        plan(x, 4, 9, 1, 4, 3);
    }

    /** What is told of one HERD holds of each of the four, at each WELL. */
    private static void eachHerdAtEachWell() {
        for (int h = 0; h < 4; h++) {
            for (int w = 0; w < 6; w++) {
                Court x = Court.with("turns " + w + ": f 1;");
                for (int v = 0; v < 6; v++) {
                    x.well(v, 1000, 0, 100);
                }
                x.days(2);
                due("herd", x.herd(h, 5, 100, 3, w), true);
                x.days(1);
                // 0 1 1 1 1(bad), 1 0 1 1 1 1(bad), 1 0 1 1 1 1(bad), 1(bad)
                plan(x, 7, MOST_LOOKS, 1, 5 + 6 + 6 + 1, 6);
                // 0 1 1 1 1(bad), 1 0 1 1 1
                plan(x, 5, MOST_LOOKS, 0, 5 + 5, 5);
                steps(x, h, 4, "10111");
                for (int other = 0; other < 4; other++) {
                    due("no other", x.step(other, 4), other == h ? 1 : NONE);
                }
            }
        }
    }

    // ---- Promise 18

    /** "true; false if there is none" */
    private static void dropWhatIsThere() {
        Court x = land();
        for (int h = -1; h <= 4; h++) {
            due("none " + h, x.drop(h), false);
        }
        due("low", x.drop(LOW), false);
        due("high", x.drop(HIGH), false);
        x.herd(0, 0, 1, 1, 0);
        x.herd(3, 1, 1, 1, 0);
        due("1", x.drop(1), false);
        due("4", x.drop(4), false);
        due("-1", x.drop(-1), false);
        due("herds", x.count(3), 2);
        // on each of the two DAYS herd 0 drinks or stays, and herd 3 stays: 2 and 4, twice
        plan(x, 2, 99, 1, 12, 1);
        due("3", x.drop(3), true);
        due("3 again", x.drop(3), false);
        due("herds", x.count(3), 1);
        plan(x, 2, 9, 0, 2, 2);
        due("0", x.drop(0), true);
        due("herds", x.count(3), 0);
        due("no herd", x.plan(1, 1), NONE);
        due("0 comes again", x.herd(0, 0, 1, 1, 0), true);
        plan(x, 2, 9, 0, 2, 2);
    }

    // ---- Promise 19

    /** "from WELL u to v (unlike, there or not): false, if they are not as told" */
    private static void waysBetweenWells() {
        Court x = new Court();
        for (int wrong : new int[] {-1, 6, LOW, HIGH}) {
            due("from " + wrong, x.way(wrong, 0, 1), false);
            due("to " + wrong, x.way(0, wrong, 1), false);
            due("both " + wrong, x.way(wrong, wrong, 1), false);
        }
        for (int u = 0; u < 6; u++) {
            for (int v = 0; v < 6; v++) {
                due("way", x.way(u, v, 1), u != v);
                due("none", x.way(u, v, 0), u != v);
            }
        }
    }

    /** "is so many DAYS (1 to 9), or none (0)" */
    private static void waysAreOneToNineDays() {
        Court x = dryHerd(9);
        for (int days : new int[] {-1, 10, LOW, HIGH}) {
            due("days " + days, x.way(1, 0, days), false);
        }
        plan(x, 10, 99, 1, 10, 9);
        due("9 days", x.way(1, 0, 9), true);
        due("9 days", x.plan(10, MOST_LOOKS), 0);
        steps(x, 0, 1, "2999999990");
        due("10 days", x.way(1, 0, 10), false);
        due("-1 days", x.way(1, 0, -1), false);
        due("still 9", x.plan(10, MOST_LOOKS), 0);
        steps(x, 0, 1, "2999999990");
        due("1 day", x.way(1, 0, 1), true);
        due("1 day", x.plan(10, MOST_LOOKS), 0);
        steps(x, 0, 1, "1111111120");
        due("none", x.way(1, 0, 0), true);
        plan(x, 10, 99, 1, 10, 9);
        due("none again", x.way(1, 0, 0), true);
        plan(x, 10, 99, 1, 10, 9);
    }

    /** "each way by itself" */
    private static void waysEachByItself() {
        Court x = dryHerd(1);
        due("the other way", x.way(0, 1, 1), true);
        plan(x, 2, 99, 1, 2, 1);
        due("this way", x.way(1, 0, 1), true);
        // 1, 1(bad), 2(bad), and 2, 0
        plan(x, 2, 99, 0, 5, 2);
        steps(x, 0, 1, "20");
        due("the other way", x.way(0, 1, 0), true);
        plan(x, 2, 99, 0, 5, 2);
    }

    /** "(unlike, there or not)" */
    private static void waysOfWellsThatAreNotThere() {
        Court x = dryHerd(2);
        due("to a WELL that is not there", x.way(1, 5, 1), true);
        due("and on from it", x.way(5, 0, 1), true);
        due("plan", x.plan(3, MOST_LOOKS), 0);
        steps(x, 0, 1, "720");
        x.way(5, 0, 0);
        due("none can drink there", x.plan(3, MOST_LOOKS), 1);
        x.well(5, 10, 0, 10);
        due("now it is there, and nobody's", x.plan(3, MOST_LOOKS), 1);
        x.read("turns 0: a 1; turns 5: a 1;");
        due("now it is a's", x.plan(3, MOST_LOOKS), 0);
        steps(x, 0, 1, "170");
    }

    /** "The WAY from WELL u to v is so many DAYS", "2 and more goes to WELL what - 2, 9 is under way" */
    private static void eachWayOfThirty() {
        for (int u = 0; u < 6; u++) {
            for (int v = 0; v < 6; v++) {
                if (u == v) {
                    continue;
                }
                Court x = Court.with("turns " + v + ": a 1;");
                for (int w = 0; w < 6; w++) {
                    x.well(w, 1000, 0, 1000);
                }
                int days = 1 + (6 * u + v) % 9;
                x.herd(2, 0, 1, days, u);
                due("without a way", x.plan(days + 1, MOST_LOOKS), 1);
                due("way", x.way(u, v, days), true);
                due("with a way", x.plan(days + 1, MOST_LOOKS), 0);
                steps(x, 2, 1, (char) ('2' + v) + "9".repeat(days - 1) + "0");
                due("no way", x.way(u, v, 0), true);
                due("without a way", x.plan(days + 1, MOST_LOOKS), 1);
            }
        }
    }

    // ---- Promise 20

    /** "PLAN for n DAYS behind DAY (1 to 14)", "NONE: n is not as told" */
    private static void planOfOneToFourteenDays() {
        Court x = landWithHerd(1);
        for (int n : new int[] {0, -1, 15, 199, 200, LOW, HIGH}) {
            due("plan of " + n, x.plan(n, MOST_LOOKS), NONE);
            due("no far", x.far(), 0);
            due("no step", x.step(0, 1), NONE);
        }
        for (int n = 1; n <= 14; n++) {
            plan(x, n, MOST_LOOKS, 0, n, n);
            due("the last DAY", x.step(0, n), 0);
            due("the DAY behind it", x.step(0, n + 1), NONE);
        }
        due("15", x.plan(15, MOST_LOOKS), NONE);
    }

    /** "or DAY and n are above 199" */
    private static void planUpToDay199() {
        Court x = land();
        x.days(185);
        x.herd(0, 0, 1, 1, 0);
        plan(x, 14, MOST_LOOKS, 0, 14, 14);
        due("DAY 199", x.step(0, 199), 0);
        due("DAY 200", x.step(0, 200), NONE);
        x.days(1);
        x.herd(0, 0, 1, 1, 0);
        due("14 from 186 on", x.plan(14, MOST_LOOKS), NONE);
        plan(x, 13, MOST_LOOKS, 0, 13, 13);
        x.days(12);
        x.herd(0, 0, 1, 1, 0);
        due("2 from 198 on", x.plan(2, MOST_LOOKS), NONE);
        plan(x, 1, MOST_LOOKS, 0, 1, 1);
        x.days(1);
        x.herd(0, 0, 1, 1, 0);
        due("1 from 199 on", x.plan(1, MOST_LOOKS), NONE);
        due("0 from 199 on", x.plan(0, MOST_LOOKS), NONE);
        due("high from 199 on", x.plan(HIGH, MOST_LOOKS), NONE);
    }

    /** "NONE: no HERD" */
    private static void planWithoutHerds() {
        Court x = land();
        due("no herd yet", x.plan(1, 1), NONE);
        for (int h = 0; h < 4; h++) {
            x.herd(h, 0, 1, 1, 0);
            plan(x, 1, 1, 0, 1, 1);
            x.drop(h);
            due("no herd any more", x.plan(1, 1), NONE);
        }
    }

    /** "LOOKS (1 to 50000)", "IllegalArgumentException: LOOKS are not as told" */
    private static void looksAreUpToFiftyThousand() {
        Court x = landWithHerd(1);
        for (int looks : new int[] {0, -1, 50001, LOW, HIGH}) {
            due("looks " + looks, x.plan(1, looks), Face.THROWS);
        }
        due("a throw changes nothing", x.count(6), 0);
        due("a throw changes nothing", x.far(), 0);
        due("a throw changes nothing", x.step(0, 1), NONE);
        plan(x, 1, 1, 0, 1, 1);
        plan(x, 1, MOST_LOOKS, 0, 1, 1);
        due("0 without a plan of 15", x.plan(15, 0), Face.THROWS);
        x.drop(0);
        due("0 without a herd", x.plan(1, 0), Face.THROWS);
        due("a throw changes nothing", x.count(6), 1);
    }

    /** "0 it is found, 2 one more LOOK would be wanted" */
    private static void oneLookTooFew() {
        for (int n = 2; n <= 14; n++) {
            Court x = landWithHerd(1);
            plan(x, n, n - 1, 2, n - 1, n - 1);
            due("none found", x.step(0, 1), NONE);
            plan(x, n, n, 0, n, n);
        }
        Court x = landWithHerd(1);
        x.herd(3, 0, 1, 1, 0);
        plan(x, 1, 1, 2, 1, 0);
        plan(x, 1, 2, 0, 2, 1);
    }

    /** "1 there is none", with no LOOK left and none wanted, and 2 with one too few */
    private static void noPlanAfterAllLooks() {
        for (int last = 1; last <= 9; last++) {
            Court x = dryHerd(last);
            plan(x, 14, last, 2, last, last);
            plan(x, 14, last + 1, 1, last + 1, last);
            plan(x, last, last, 0, last, last);
            plan(x, last + 1, last + 1, 1, last + 1, last);
        }
    }

    /** Three WELLS with WAYS of a DAY between all: 3 things on each DAY, in each case. */
    private static void everyCaseIsLookedAt() {
        Court x = Court.with("turns 5: a 1;");
        x.well(0, 10, 0, 10);
        for (int u = 0; u < 3; u++) {
            for (int v = 0; v < 3; v++) {
                x.way(u, v, 1);
            }
        }
        x.herd(2, 0, 1, 8, 0);
        int looks = 0;
        for (int day = 1, cases = 3; day <= 9; day++, cases *= 3) {
            looks += cases;
        }
        due("looks", looks, 29523);
        plan(x, 14, looks - 1, 2, looks - 1, 8);
        plan(x, 14, looks, 1, looks, 8);
        plan(x, 9, looks, 1, looks, 8);
        plan(x, 8, 8, 0, 8, 8);
        x.herd(2, 0, 1, 9, 0);
        plan(x, 14, MOST_LOOKS, 2, MOST_LOOKS, 9);
        plan(x, 14, MOST_LOOKS - 1, 2, MOST_LOOKS - 1, 9);
    }

    // ---- the things that a HERD does

    /** "drinks (if .. LEVEL has its DRAW, which goes off)" */
    private static void drinksIfLevelHasItsDraw() {
        for (int draw : new int[] {1, 50, 99, 100}) {
            Court x = Court.with("turns 0: a 1;");
            x.well(0, 1000, 0, 2 * draw);
            x.well(1, 1000, 0, 2 * draw - 1);
            x.herd(0, 0, draw, 9, 0);
            plan(x, 4, 4, 0, 4, 4);
            steps(x, 0, 1, "0011");
            x.read("turns 1: a 1;");
            x.herd(0, 0, draw, 9, 1);
            plan(x, 4, 4, 0, 4, 4);
            steps(x, 0, 1, "0111");
            due("nothing goes off", x.water(0, 0), 2 * draw);
        }
    }

    /** "drinks (if its CLAN is RIGHT, no GUEST" */
    private static void drinksIfRightAndNoGuest() {
        Court x = Court.with("turns 0: a 1; wed a b; guest c at 0 of a 1000; turns 1: d 1; dry 1 to 0;");
        x.well(0, 1000, 0, 1000);
        x.well(1, 1000, 0, 0);
        String want = "001011";
        for (int clan = 0; clan < 6; clan++) {
            x.herd(0, clan, 1, 1, 0);
            plan(x, 1, 1, 0, 1, 1);
            steps(x, 0, 1, want.substring(clan, clan + 1));
        }
    }

    /** "does the first, then the next, of: drinks, stays, goes" */
    private static void staysBehindDrinks() {
        Court x = Court.with("turns 0: a 1; turns 1: a 1;");
        x.well(0, 1000, 0, 1000);
        x.well(1, 1000, 0, 1000);
        x.way(0, 1, 1);
        x.herd(0, 0, 1, 9, 0);
        plan(x, 1, 1, 0, 1, 1);
        steps(x, 0, 1, "0");
        x.read("turns 1: a 1;");
        plan(x, 1, 1, 0, 1, 1);
        steps(x, 0, 1, "1");
        x.herd(0, 0, 1, 1, 0);
        // 1, 1(bad), 3(bad), and 3, 0
        plan(x, 2, 4, 2, 4, 1);
        plan(x, 2, 5, 0, 5, 2);
        steps(x, 0, 1, "30");
    }

    /** "goes to WELL 0, 1, .. 5 (where there is a WAY" */
    private static void goesToTheFirstWellWithAWay() {
        for (int to = 1; to < 6; to++) {
            Court x = Court.with("turns 0: a 1;turns 1: a 1;turns 2: a 1;turns 3: a 1;turns 4: a 1;turns 5: a 1;");
            x.well(0, 1000, 0, 0);
            x.herd(0, 0, 1, 1, 0);
            for (int w = 1; w < 6; w++) {
                x.well(w, 1000, 0, 1000);
            }
            for (int w = to; w < 6; w++) {
                x.way(0, w, 1);
            }
            due("plan", x.plan(2, MOST_LOOKS), 0);
            steps(x, 0, 1, (char) ('2' + to) + "0");
        }
        Court x = Court.with("turns 0: a 1;");
        x.well(0, 1000, 0, 1000);
        x.well(5, 1000, 0, 1000);
        x.way(5, 0, 1);
        x.herd(0, 0, 1, 1, 5);
        due("plan", x.plan(2, MOST_LOOKS), 0);
        steps(x, 0, 1, "20");
    }

    /** "it is there on the DAY that many behind this one, and can drink then" */
    private static void goesForSoManyDays() {
        for (int days = 1; days <= 9; days++) {
            Court x = dryHerd(days);
            x.way(1, 0, days);
            due("plan", x.plan(days + 1, MOST_LOOKS), 0);
            steps(x, 0, 1, "2" + "9".repeat(days - 1) + "0");
            due("none behind it", x.step(0, days + 2), NONE);
            if (days > 1) {
                x.herd(0, 0, 1, days - 1, 1);
                due("a DAY too late", x.plan(days + 1, MOST_LOOKS), 1);
                due("far", x.far(), days - 1);
            }
        }
    }

    /** "one under way does nothing", "Each thing done by a HERD at a WELL is one LOOK" */
    private static void underWayIsNoLook() {
        Court x = dryHerd(4);
        x.way(1, 0, 4);
        // 1 1 1 1 1(bad) 2(bad), 2, 2, 2, then 2 on the first DAY and a drink on the fifth
        plan(x, 5, MOST_LOOKS, 0, 5 + 1 + 3 + 1 + 1, 5);
        steps(x, 0, 1, "29990");
        plan(x, 4, MOST_LOOKS, 0, 4, 4);
        steps(x, 0, 1, "1111");
        x.herd(1, 0, 1, 1, 0);
        x.herd(0, 0, 1, 3, 1);
        x.way(1, 0, 3);
        due("plan", x.plan(4, MOST_LOOKS), 0);
        steps(x, 0, 1, "2990");
        steps(x, 1, 1, "0000");
    }

    /** "what can't be done is none" */
    private static void whatCantBeDoneIsNoLook() {
        Court x = dryHerd(9);
        plan(x, 9, 9, 0, 9, 9);
        x.way(0, 1, 1);
        plan(x, 9, 9, 0, 9, 9);
        x.herd(0, 0, 1, 1, 1);
        plan(x, 2, 2, 1, 2, 1);
        x.way(1, 0, 2);
        // 1, 1(bad), 2(bad), and 2, under way(bad)
        plan(x, 2, 4, 1, 4, 1);
        plan(x, 2, 3, 2, 3, 1);
    }

    /** "A DAY is good, if no HERD's last drink is more than LAST DAYS ago at its end" */
    private static void goodUpToLast() {
        for (int last = 1; last <= 9; last++) {
            Court x = dryHerd(last);
            plan(x, last, MOST_LOOKS, 0, last, last);
            plan(x, last + 1, MOST_LOOKS, 1, last + 1, last);
            Court y = Court.with("turns 0: a 1;");
            y.well(0, 10, 0, 1);
            y.herd(0, 0, 1, last, 0);
            int n = 2 * last + 1;
            due("a drink on the DAY behind LAST", y.plan(Math.min(n, 14), MOST_LOOKS), 0);
            if (n < 14) {
                due("a DAY more", y.plan(n + 1, MOST_LOOKS), 1);
                due("far", y.far(), n);
            }
        }
        Court x = landWithHerd(9);
        x.herd(3, 1, 1, 2, 0);
        due("one of two thirsts", x.plan(3, MOST_LOOKS), 1);
        due("far", x.far(), 2);
    }

    /** "a DAY that is not good leads back to the latest HERD that can do another thing" */
    private static void backToTheLatestHerd() {
        Court x = Court.with("turns 0: a 1;");
        x.well(0, 10, 0, 2);
        x.herd(0, 0, 1, 2, 0);
        x.herd(1, 0, 1, 1, 0);
        plan(x, 2, 4, 0, 4, 2);
        steps(x, 0, 1, "01");
        steps(x, 1, 1, "01");
        // 0 0, 1 1, 1 1(bad); back to herd 1 on DAY 1: 1, then 0 1(bad), 1 0, and 1 1
        plan(x, 3, 13, 0, 13, 3);
        steps(x, 0, 1, "011");
        steps(x, 1, 1, "101");
        due("three drinks, and water for two", x.plan(4, MOST_LOOKS), 1);
        due("far", x.far(), 3);
        x.herd(0, 0, 1, 4, 0);
        due("the first herd leaves both to the other", x.plan(4, MOST_LOOKS), 0);
        steps(x, 0, 1, "1111");
        steps(x, 1, 1, "0101");
    }

    /** "a DAY that is not good leads back": with the LEVEL as it was ahead of what is done otherwise */
    private static void whatWasDrunkOnABadDayComesBack() {
        Court x = Court.with("turns 0: a 1;");
        x.well(0, 10, 0, 3);
        x.herd(1, 0, 2, 1, 0);
        x.days(1);
        x.herd(0, 0, 2, 9, 0);
        x.herd(3, 0, 1, 9, 0);
        // herd 0 drinks, so herd 1 thirsts, whatever herd 3 does: 0 1 0(bad), 1(bad), and 1 0 0
        plan(x, 1, 99, 0, 7, 1);
        steps(x, 0, 2, "1");
        steps(x, 1, 2, "0");
        steps(x, 3, 2, "0");
    }

    /** "HERD by HERD": what the first drinks, the next has not */
    private static void herdByHerd() {
        Court x = Court.with("turns 0: a 1;");
        x.well(0, 10, 0, 1);
        x.herd(3, 0, 1, 1, 0);
        x.herd(1, 0, 1, 1, 0);
        plan(x, 1, 2, 0, 2, 1);
        steps(x, 1, 1, "0");
        steps(x, 3, 1, "1");
        due("not there", x.step(0, 1), NONE);
        due("not there", x.step(2, 1), NONE);
        // DAY 1: 0 1, DAY 2: 1 1(bad); DAY 1: 1 0, DAY 2: 1 1(bad); DAY 1: 1 1, DAY 2: 0 1(bad), 1 0(bad) 1(bad)
        plan(x, 2, 99, 1, 2 + 2 + 2 + 2 + 1 + 2 + 3, 1);
    }

    /** "MORNINGS, LEVELS, OWNERS go on as told by next(), as if nobody else drew" */
    private static void fromTheLevelOfDay() {
        Court x = Court.with("turns 0: a 1;");
        x.well(0, 1000, 2, 12);
        x.herd(0, 0, 10, 9, 0);
        x.draw(0, 0, 4);
        plan(x, 1, 1, 0, 1, 1);
        steps(x, 0, 1, "0");
        x.draw(0, 0, 1);
        plan(x, 2, 2, 0, 2, 2);
        steps(x, 0, 1, "10");
    }

    private static void levelsGoOnUpToCap() {
        Court x = Court.with("turns 0: a 1;");
        x.well(0, 10, 3, 10);
        x.herd(0, 0, 10, 9, 0);
        // 10 (not 13): 0, then 3, 6, 9, 10
        plan(x, 6, 6, 0, 6, 6);
        steps(x, 0, 1, "011101");
        x.herd(0, 0, 11, 9, 0);
        plan(x, 6, 6, 0, 6, 6);
        steps(x, 0, 1, "111111");
    }

    private static void ownersGoOn() {
        Court x = Court.with("turns 0: b 3, a 1;");
        x.well(0, 1000, 0, 1000);
        x.herd(0, 0, 1, 9, 0);
        plan(x, 8, 8, 0, 8, 8);
        steps(x, 0, 1, "11011101");
        due("lend", x.lend(0, 3, 1), 4);
        plan(x, 8, 8, 0, 8, 8);
        steps(x, 0, 1, "11101101");
        x.days(4);
        plan(x, 4, 4, 0, 4, 4);
        steps(x, 0, 5, "1101");
    }

    private static void droughtsGoOn() {
        Court x = Court.with("turns 0: a 1; drought 0 below 10 b;");
        x.well(0, 1000, 1, 19);
        x.herd(0, 0, 10, 9, 0);
        // 20: 10, then 11: 1, then 2 .. 9, which is below 10
        plan(x, 9, 9, 0, 9, 9);
        steps(x, 0, 1, "001111111");
        x.read("turns 0: b 1; drought 0 below 12 a;");
        plan(x, 4, 4, 0, 4, 4);
        steps(x, 0, 1, "1111");
        x.read("turns 0: b 1; drought 0 below 21 a;");
        plan(x, 4, 4, 0, 4, 4);
        steps(x, 0, 1, "0011");
        due("the real DAY has its own", x.owner(0, 1), 1);
    }

    // ---- Promises 21 and 22

    /** "NONE: no such HERD then, or a DAY that was not planned" */
    private static void stepOfHerdsAndDays() {
        Court x = land();
        x.days(3);
        x.herd(0, 0, 1, 1, 0);
        x.herd(3, 0, 1, 1, 0);
        plan(x, 14, 28, 0, 28, 14);
        for (int h : new int[] {-1, 1, 2, 4, LOW, HIGH}) {
            due("herd " + h, x.step(h, 4), NONE);
            due("herd " + h, x.step(h, 17), NONE);
        }
        for (int h : new int[] {0, 3}) {
            for (int day : new int[] {-1, 0, 3, 18, 199, 200, LOW, HIGH}) {
                due("DAY " + day, x.step(h, day), NONE);
            }
            steps(x, h, 4, "00000000000000");
        }
        x.herd(1, 0, 1, 1, 0);
        due("no such HERD then", x.step(1, 4), NONE);
        x.drop(0);
        due("one that is no more", x.step(0, 4), 0);
    }

    /** "(also ahead of any)" */
    private static void stepAheadOfAny() {
        Court x = dryHerd(1);
        for (int day = -1; day <= 15; day++) {
            due("ahead of any", x.step(0, day), NONE);
        }
        plan(x, 2, 9, 1, 2, 1);
        due("ahead of any that was 0", x.step(0, 1), NONE);
        plan(x, 2, 1, 2, 1, 1);
        due("ahead of any that was 0", x.step(0, 1), NONE);
    }

    /** "Of the PLAN of the latest plan() that was 0" */
    private static void stepOfTheLatestThatWasFound() {
        Court x = dryHerd(2);
        x.way(1, 0, 1);
        plan(x, 3, 99, 0, 6, 3);
        steps(x, 0, 1, "120");
        x.way(1, 0, 0);
        due("1", x.plan(3, 99), 1);
        steps(x, 0, 1, "120");
        due("2", x.plan(3, 1), 2);
        steps(x, 0, 1, "120");
        due("NONE", x.plan(15, 1), NONE);
        steps(x, 0, 1, "120");
        due("a throw", x.plan(3, 0), Face.THROWS);
        steps(x, 0, 1, "120");
        x.days(2);
        x.read("");
        steps(x, 0, 1, "120");
        x.herd(0, 0, 1, 1, 1);
        plan(x, 1, 1, 0, 1, 1);
        for (int day = 0; day < 3; day++) {
            due("not planned by the latest", x.step(0, day), NONE);
        }
        steps(x, 0, 3, "1");
        due("not planned", x.step(0, 4), NONE);
    }

    /** "0 ahead of any" */
    private static void farAheadOfAny() {
        Court x = landWithHerd(1);
        due("ahead of any", x.far(), 0);
        due("NONE", x.plan(0, 1), NONE);
        due("ahead of any that was not NONE", x.far(), 0);
        due("a throw", x.plan(1, 0), Face.THROWS);
        due("ahead of any", x.far(), 0);
    }

    /** "of the latest plan() that was not NONE" */
    private static void farOfTheLatestThatWasNotNone() {
        Court x = dryHerd(5);
        plan(x, 9, 99, 1, 6, 5);
        due("NONE", x.plan(15, 1), NONE);
        due("of the one that was 1", x.far(), 5);
        due("a throw", x.plan(9, 0), Face.THROWS);
        due("of the one that was 1", x.far(), 5);
        plan(x, 9, 3, 2, 3, 3);
        due("NONE", x.plan(0, 1), NONE);
        due("of the one that was 2", x.far(), 3);
        plan(x, 2, 9, 0, 2, 2);
        x.drop(0);
        due("NONE", x.plan(2, 9), NONE);
        due("of the one that was 0", x.far(), 2);
    }

    /** "How many DAYS, one behind another from the first one planned on, were good in some case" */
    private static void farUpToN() {
        Court x = dryHerd(1);
        x.days(1);
        plan(x, 3, 9, 1, 1, 0);
        Court y = landWithHerd(1);
        plan(y, 14, 14, 0, 14, 14);
        plan(y, 1, 14, 0, 1, 1);
        Court z = Court.with("turns 0: a 1; turns 5: a 1;");
        z.well(0, 10, 0, 0);
        z.well(4, 10, 0, 0);
        z.well(5, 10, 0, 1);
        z.way(0, 4, 1);
        z.way(0, 5, 2);
        z.herd(0, 0, 1, 2, 0);
        due("no case is good for 6 DAYS", z.plan(6, MOST_LOOKS), 1);
        due("one is for 5, others for 2", z.far(), 5);
        due("and it is not the last one looked at", z.plan(5, MOST_LOOKS), 0);
        z.way(0, 5, 0);
        z.way(0, 1, 2);
        z.well(1, 10, 0, 1);
        z.read("turns 1: a 1;");
        due("no case is good for 6 DAYS", z.plan(6, MOST_LOOKS), 1);
        due("the best one comes ahead of others", z.far(), 5);
    }

    // ---- Promise 23

    /** "0 DAY, 1 WELLS, 2 RULES, 3 HERDS, 4 DRAWS, 5 bytes of the tape, 6 LOOKS. NONE for another what" */
    private static void countOfWhat() {
        Court x = Court.with("turns 0: a 1; wed a b; wed b c;");
        for (int w = 0; w < 4; w++) {
            x.well(w, 10, 0, 10);
        }
        x.days(9);
        x.herd(1, 0, 1, 2, 0);
        x.herd(2, 0, 1, 2, 0);
        for (int k = 0; k < 5; k++) {
            x.take(3, 0, 1);
        }
        x.plan(3, 99);
        x.text("1234567");
        int[] want = {9, 4, 3, 2, 5, 7, 6};
        for (int what = 0; what < 7; what++) {
            due("what " + what, x.count(what), want[what]);
        }
        for (int what : new int[] {-1, 7, LOW, HIGH}) {
            due("what " + what, x.count(what), NONE);
        }
    }

    /** "6 LOOKS of the latest plan()" */
    private static void looksOfTheLatest() {
        Court x = dryHerd(5);
        due("ahead of any", x.count(6), 0);
        plan(x, 5, 9, 0, 5, 5);
        plan(x, 9, 9, 1, 6, 5);
        plan(x, 9, 2, 2, 2, 2);
        due("a throw", x.plan(9, 50001), Face.THROWS);
        due("a throw changes nothing", x.count(6), 2);
        due("NONE", x.plan(15, 9), NONE);
        due("one that was NONE had none", x.count(6), 0);
    }
}
