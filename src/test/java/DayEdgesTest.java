/**
 * The sentences on wells, days, owners and rights that name a boundary (Terms ==== 1. and 2.,
 * promises 1, 4, 7 to 11): the last value that is as told, and the first that is not.
 */
public final class DayEdgesTest {
    private static final int NONE = WellCourt.NONE;
    private static final int LOW = Integer.MIN_VALUE;
    private static final int HIGH = Integer.MAX_VALUE;

    public static void main(String[] args) {
        aNewObject();
        wellsAreSix();
        capIsOneToAThousand();
        rateIsUpToTwoHundred();
        levelIsUpToCap();
        aWellIsMadeOnce();
        theLevelIsItsMorning();
        dayIsZeroAtFirst();
        day199IsTheLast();
        levelsGrowUpToCap();
        dayZeroBeginsWithoutGrowth();
        ownersOnEachDay();
        turnsGoRound();
        turnsAreFromDayZeroOn();
        rightsTellDayAndAllBehind();
        rightsOnTheLastDay();
        whatWasLentIsForgotten();
        withAFaultEveryRuleStays();
        droughtBelowMany();
        droughtTheFirstThatHolds();
        droughtOnThatDayAlone();
        droughtIsAskedWhenTheDayBegins();
        droughtIsAskedOfDayWhenRightsAreRead();
        droughtInPlaceOfNone();
        droughtOfAWellThatIsNotThere();
        droughtOnTheLastDay();
        droughtOfEachWell();
        droughtTheTwentiethRule();
        wedEitherWay();
        wedToSeveral();
        dryWhenTheMorningIsZero();
        dryFromEachToEach();
        dryFromSeveral();
        dryOfAWellThatIsNotThere();
        guestOfTheOwner();
        guestOfEachAtEach();
        waterOfWhat();
        waterOfWells();
        mayOfWellsAndClans();
        lendDaysBehindDay();
        lendUpToDay199();
        lendTheFirstDayBehind();
        lendWellsAndClans();
        lendDaysWithoutOwner();
        lendToTheOwner();
        lendAgain();
        theLast512Calls();
        Check.finish();
    }

    private static void due(String call, long got, long want) {
        Check.due(call, got, want);
    }

    private static void due(String call, boolean got, boolean want) {
        Check.due(call, got, want);
    }

    private static Court withWell(int w, int cap, int rate, int level) {
        Court x = new Court();
        due("well", x.well(w, cap, rate, level), true);
        return x;
    }

    // ---- Promise 1

    /** "No WELLS, RIGHTS, HERDS, WAYS, DRAWS; DAY 0; an empty tape" */
    private static void aNewObject() {
        Court x = new Court();
        for (int what = 0; what <= 6; what++) {
            due("count " + what, x.count(what), 0);
        }
        for (int w = 0; w < 6; w++) {
            due("no well", x.water(w, 2), NONE);
            due("no owner", x.owner(w, 0), NONE);
            due("no owner", x.owner(w, 199), NONE);
        }
        due("no draw", x.drawn(0, 0), Face.THROWS);
        due("no draw", x.report(0), false);
        for (int h = 0; h < 4; h++) {
            due("no herd", x.drop(h), false);
        }
        due("no fault", x.fault(), 0);
        due("no bytes", x.end(1), false);
        due("no rules", x.rights(), 0);
        for (int w = 0; w < 6; w++) {
            x.well(w, 10, 0, 10);
        }
        due("herd", x.herd(0, 0, 1, 9, 0), true);
        due("plan", x.plan(1, 1), 0);
        due("plan", x.plan(9, 9), 0);
        due("no way: a herd can only stay", x.plan(10, 10), 1);
        due("no way: a herd can only stay", x.count(6), 10);
    }

    // ---- Promise 4

    /** "WELLS 0 .. 5" */
    private static void wellsAreSix() {
        Court x = new Court();
        due("well -1", x.well(-1, 10, 1, 1), false);
        due("well 6", x.well(6, 10, 1, 1), false);
        due("well low", x.well(LOW, 10, 1, 1), false);
        due("well high", x.well(HIGH, 10, 1, 1), false);
        due("none is there", x.count(1), 0);
        for (int w = 0; w < 6; w++) {
            due("well " + w, x.well(w, 10 + w, 1, w), true);
            due("wells", x.count(1), w + 1);
        }
        due("well 6", x.well(6, 10, 1, 1), false);
        for (int w = 0; w < 6; w++) {
            due("its level", x.water(w, 0), w);
            due("its cap", x.water(w, 2), 10 + w);
        }
    }

    /** "a CAP (1 to 1000)" */
    private static void capIsOneToAThousand() {
        Court x = new Court();
        for (int cap : new int[] {0, -1, 1001, LOW, HIGH}) {
            due("cap " + cap, x.well(0, cap, 0, 0), false);
            due("none is there", x.count(1), 0);
            due("none is there", x.water(0, 2), NONE);
        }
        due("cap 1", x.well(0, 1, 0, 0), true);
        due("cap 1", x.water(0, 2), 1);
        due("cap 1000", x.well(1, 1000, 0, 0), true);
        due("cap 1000", x.water(1, 2), 1000);
    }

    /** "a RATE (0 to 200)" */
    private static void rateIsUpToTwoHundred() {
        Court x = new Court();
        for (int rate : new int[] {-1, 201, LOW, HIGH}) {
            due("rate " + rate, x.well(0, 1000, rate, 0), false);
            due("none is there", x.count(1), 0);
        }
        due("rate 0", x.well(0, 1000, 0, 0), true);
        due("rate 200", x.well(1, 1000, 200, 0), true);
        due("rate 0", x.water(0, 3), 0);
        due("rate 200", x.water(1, 3), 200);
        x.days(1);
        due("rate 0", x.water(0, 0), 0);
        due("rate 200", x.water(1, 0), 200);
    }

    /** "this LEVEL (0 to CAP)" */
    private static void levelIsUpToCap() {
        for (int cap : new int[] {1, 2, 999, 1000}) {
            Court x = new Court();
            for (int level : new int[] {-1, cap + 1, 1001, LOW, HIGH}) {
                due("level " + level + " of " + cap, x.well(0, cap, 1, level), false);
                due("none is there", x.count(1), 0);
            }
            due("level 0", x.well(0, cap, 1, 0), true);
            due("level of cap", x.well(1, cap, 1, cap), true);
            due("level 0", x.water(0, 0), 0);
            due("level of cap", x.water(1, 0), cap);
        }
    }

    /** "WELL w, which is none yet: true; false, if it is" */
    private static void aWellIsMadeOnce() {
        Court x = withWell(3, 50, 7, 20);
        due("take", x.take(3, 0, 5), 0);
        due("again", x.well(3, 50, 7, 20), false);
        due("again", x.well(3, 100, 9, 100), false);
        due("level stays", x.water(3, 0), 15);
        due("morning stays", x.water(3, 1), 20);
        due("cap stays", x.water(3, 2), 50);
        due("rate stays", x.water(3, 3), 7);
        due("wells", x.count(1), 1);
        x.days(199);
        due("again on the last day", x.well(3, 50, 7, 20), false);
        due("another on the last day", x.well(4, 50, 7, 20), true);
    }

    /** "with this LEVEL, which is its MORNING, too" */
    private static void theLevelIsItsMorning() {
        Court x = new Court();
        x.well(0, 1000, 10, 0);
        x.well(1, 1000, 10, 1000);
        x.days(2);
        x.well(2, 1000, 10, 77);
        due("morning 0", x.water(0, 1), 20);
        due("morning of cap", x.water(1, 1), 1000);
        due("morning on DAY 2", x.water(2, 1), 77);
        due("level on DAY 2", x.water(2, 0), 77);
    }

    // ---- Promise 7

    /** "DAY is 0 at first" */
    private static void dayIsZeroAtFirst() {
        Court x = new Court();
        due("DAY", x.count(0), 0);
        due("next", x.next(), true);
        due("DAY", x.count(0), 1);
    }

    /** "199 the last one", "true; false, if DAY is 199" */
    private static void day199IsTheLast() {
        Court x = Court.with("turns 0: a 1; drought 0 below 200 b;");
        x.well(0, 1000, 1, 0);
        x.days(198);
        due("DAY", x.count(0), 198);
        due("to the last", x.next(), true);
        due("DAY", x.count(0), 199);
        due("level", x.water(0, 0), 199);
        due("drought", x.owner(0, 199), 1);
        due("take", x.take(0, 0, 9), 0);
        for (int i = 0; i < 3; i++) {
            due("no more", x.next(), false);
            due("DAY", x.count(0), 199);
            due("level stays", x.water(0, 0), 190);
            due("morning stays", x.water(0, 1), 199);
            due("owner stays", x.owner(0, 199), 1);
        }
    }

    /** "each LEVEL grows by RATE, up to CAP" */
    private static void levelsGrowUpToCap() {
        for (int level = 85; level <= 100; level++) {
            Court x = withWell(2, 100, 10, level);
            x.days(1);
            due("level", x.water(2, 0), Math.min(level + 10, 100));
            due("morning", x.water(2, 1), Math.min(level + 10, 100));
            x.days(1);
            due("level", x.water(2, 0), Math.min(level + 20, 100));
        }
        Court x = new Court();
        for (int w = 0; w < 6; w++) {
            x.well(w, 1000, w, 0);
        }
        x.days(3);
        for (int w = 0; w < 6; w++) {
            due("each by its own rate", x.water(w, 0), 3 * w);
        }
        Court y = withWell(0, 1, 200, 0);
        y.days(1);
        due("a rate above cap", y.water(0, 0), 1);
    }

    /** "(DAY 0 begins without that)" */
    private static void dayZeroBeginsWithoutGrowth() {
        Court x = withWell(0, 100, 10, 5);
        due("level", x.water(0, 0), 5);
        due("morning", x.water(0, 1), 5);
        due("a text changes no level", x.read("turns 0: a 1;"), 1);
        due("level", x.water(0, 0), 5);
    }

    // ---- OWNERS

    /** "OWNER on each DAY 0 .. 199: a CLAN or none", promise 9: "NONE: none, or no such WELL, DAY" */
    private static void ownersOnEachDay() {
        Court x = Court.with("turns 0: a 1; turns 5: f 1;");
        for (int w : new int[] {0, 5}) {
            due("DAY -1", x.owner(w, -1), NONE);
            due("DAY 0", x.owner(w, 0), w);
            due("DAY 199", x.owner(w, 199), w);
            due("DAY 200", x.owner(w, 200), NONE);
            due("low", x.owner(w, LOW), NONE);
            due("high", x.owner(w, HIGH), NONE);
        }
        for (int day : new int[] {0, 199}) {
            due("well -1", x.owner(-1, day), NONE);
            due("well 6", x.owner(6, day), NONE);
            due("well low", x.owner(LOW, day), NONE);
            due("well high", x.owner(HIGH, day), NONE);
            due("none", x.owner(1, day), NONE);
        }
        x.well(0, 10, 0, 10);
        due("there or not", x.owner(0, 0), 0);
        x.days(199);
        due("DAY 0 on the last day", x.owner(0, 0), 0);
        due("DAY 200 on the last day", x.owner(0, 200), NONE);
    }

    /** "one behind another, for so many DAYS each, and so on again and again" */
    private static void turnsGoRound() {
        for (String text : new String[] {"a 1", "a 1,b 1", "f 9", "a 9,b 9,c 9,d 9,e 9,f 9,a 9,b 9", "a 2,b 1,a 3,c 9"}) {
            Court x = Court.with("turns 4: " + text + ";");
            StringBuilder round = new StringBuilder();
            for (String share : text.split(",")) {
                round.append(share.substring(0, 1).repeat(share.charAt(2) - '0'));
            }
            for (int day = 0; day < 200; day++) {
                due("owner of " + text + " on " + day, x.owner(4, day), round.charAt(day % round.length()) - 'a');
            }
        }
    }

    /** "from DAY 0 on the CLANS are OWNERS" */
    private static void turnsAreFromDayZeroOn() {
        Court x = new Court();
        x.days(5);
        due("read on DAY 5", x.read("turns 0: a 3, b 1;"), 1);
        due("DAY 4 is ahead of DAY", x.owner(0, 4), NONE);
        due("DAY 5 is the second of the second round", x.owner(0, 5), 0);
        due("DAY 6", x.owner(0, 6), 0);
        due("DAY 7", x.owner(0, 7), 1);
        due("DAY 8", x.owner(0, 8), 0);
    }

    /** "OWNERS of DAY and of all DAYS behind it are told by turns (none without); of DAYS ahead of DAY they stay" */
    private static void rightsTellDayAndAllBehind() {
        Court x = Court.with("turns 0: a 1; turns 1: a 1;");
        x.days(7);
        x.read("turns 0: b 1; turns 2: c 1;");
        due("ahead of DAY", x.owner(0, 6), 0);
        due("DAY", x.owner(0, 7), 1);
        due("behind DAY", x.owner(0, 8), 1);
        due("the last", x.owner(0, 199), 1);
        due("ahead of DAY", x.owner(1, 6), 0);
        due("none without", x.owner(1, 7), NONE);
        due("none without", x.owner(1, 199), NONE);
        due("none ahead of DAY", x.owner(2, 6), NONE);
        due("DAY", x.owner(2, 7), 2);
        x.read("");
        due("ahead of DAY", x.owner(0, 6), 0);
        due("none without", x.owner(0, 7), NONE);
        due("none without", x.owner(2, 199), NONE);
    }

    /** The same where DAY is the last one. */
    private static void rightsOnTheLastDay() {
        Court x = Court.with("turns 0: a 1;");
        x.days(199);
        x.well(0, 10, 0, 3);
        due("rights", x.read("turns 0: b 1, c 1; drought 0 below 3 d;"), 2);
        due("DAY 198 stays", x.owner(0, 198), 0);
        due("DAY 199", x.owner(0, 199), 2);
        due("rights", x.read("turns 0: b 1; drought 0 below 4 d;"), 2);
        due("DAY 199", x.owner(0, 199), 3);
    }

    /** "and what was lent of them is forgotten" */
    private static void whatWasLentIsForgotten() {
        Court x = Court.with("turns 0: a 1, b 1;");
        due("lend 2", x.lend(0, 2, 1), 3);
        due("lend 6", x.lend(0, 6, 1), 7);
        due("lend 10", x.lend(0, 10, 1), 11);
        x.days(6);
        x.read("turns 0: a 1, b 1;");
        due("lent ahead of DAY", x.owner(0, 2), 1);
        due("given back ahead of DAY", x.owner(0, 3), 0);
        due("lent of DAY", x.owner(0, 6), 0);
        due("given back behind DAY", x.owner(0, 7), 1);
        due("lent behind DAY", x.owner(0, 10), 0);
        due("given back behind DAY", x.owner(0, 11), 1);
        x.days(1);
        due("lend 8", x.lend(0, 8, 1), 9);
        due("a fault", x.read("turns 0: a 1, b 1"), -18);
        due("with a FAULT all stays", x.owner(0, 8), 1);
        due("with a FAULT all stays", x.owner(0, 9), 0);
    }

    /** "-1 - the place of a FAULT: all stays": rules of each kind, on DAY and on DAYS behind it */
    private static void withAFaultEveryRuleStays() {
        Court x = new Court();
        x.well(0, 100, 5, 10);
        x.well(1, 100, 0, 0);
        x.read("turns 0: a 1, b 1; turns 1: c 1; drought 0 below 16 d; wed d e; guest f at 0 of d 9; dry 1 to 0;");
        for (int day = 0; day < 4; day++) {
            for (String text : new String[] {"#", "turns 0: f 1; drought 0 below 1000 f; wed a f; guest e at 0 of f 3; dry 0 to 1;;"}) {
                due("a fault", x.read(text) < 0, true);
            }
            boolean isDrought = day < 2;
            int owner = isDrought ? 3 : day % 2;
            due("OWNER", x.owner(0, day), owner);
            due("OWNER is RIGHT", x.may(0, owner), 1);
            due("wed", x.may(0, 4), isDrought ? 1 : 0);
            due("GUEST", x.may(0, 5), isDrought ? 2 : 0);
            due("OWNER of a dry WELL", x.may(0, 2), 1);
            due("rules", x.count(2), 6);
            x.days(1);
        }
    }

    // ---- drought

    private static int ownerBelow(int morning, int many) {
        Court x = withWell(0, 1000, 0, morning);
        x.read("turns 0: a 1; drought 0 below " + many + " b;");
        int owner = x.owner(0, 0);
        due("the owner is right", x.may(0, owner), 1);
        due("the other is not", x.may(0, 1 - owner), 0);
        x.days(1);
        due("the same on the next DAY", x.owner(0, 1), owner);
        return owner;
    }

    /** "if a drought rule of that WELL holds, MORNING below MANY" */
    private static void droughtBelowMany() {
        due("0 below 0", ownerBelow(0, 0), 0);
        due("0 below 1", ownerBelow(0, 1), 1);
        due("1 below 1", ownerBelow(1, 1), 0);
        due("29 below 30", ownerBelow(29, 30), 1);
        due("30 below 30", ownerBelow(30, 30), 0);
        due("31 below 30", ownerBelow(31, 30), 0);
        due("999 below 1000", ownerBelow(999, 1000), 1);
        due("1000 below 1000", ownerBelow(1000, 1000), 0);
        Court x = withWell(0, 10, 0, 0);
        x.read("turns 0: a 1; drought 1 below 1000 b;");
        due("a rule of another WELL", x.owner(0, 0), 0);
    }

    /** "the first such rule's CLAN is OWNER" */
    private static void droughtTheFirstThatHolds() {
        for (int morning = 8; morning <= 31; morning++) {
            Court x = withWell(0, 1000, 0, morning);
            x.read("drought 0 below 20 c; turns 0: a 1; drought 0 below 10 d; drought 0 below 30 e; drought 0 below 30 f;");
            due("owner with a morning of " + morning, x.owner(0, 0), morning < 20 ? 2 : morning < 30 ? 4 : 0);
        }
    }

    /** "in that one's place, on that DAY alone" */
    private static void droughtOnThatDayAlone() {
        Court x = withWell(0, 100, 10, 15);
        x.read("turns 0: a 1; drought 0 below 20 b;");
        due("DAY 0", x.owner(0, 0), 1);
        for (int day = 1; day < 200; day++) {
            due("DAYS behind it", x.owner(0, day), 0);
        }
        x.days(1);
        due("DAY 0 stays", x.owner(0, 0), 1);
        due("DAY 1", x.owner(0, 1), 0);
        due("take", x.take(0, 1, 25), 0);
        x.days(1);
        due("DAY 1 stays", x.owner(0, 1), 0);
        due("DAY 2", x.owner(0, 2), 1);
        due("DAY 3", x.owner(0, 3), 0);
        x.days(1);
        due("DAY 3", x.owner(0, 3), 0);
    }

    /** "it is asked when the DAY begins": not when water goes off, not when a WELL is made */
    private static void droughtIsAskedWhenTheDayBegins() {
        Court x = withWell(0, 100, 5, 20);
        x.read("turns 0: a 1; turns 1: a 1; drought 0 below 20 b; drought 1 below 20 b;");
        due("draw", x.draw(0, 0, 20), 0);
        due("water went off", x.owner(0, 0), 0);
        due("water went off", x.may(0, 0), 1);
        x.well(1, 100, 5, 0);
        due("a WELL was made", x.owner(1, 0), 0);
        due("a WELL was made", x.may(1, 1), 0);
        x.days(1);
        due("when the DAY begins", x.owner(0, 1), 1);
        due("when the DAY begins", x.owner(1, 1), 1);
        due("by the MORNING that has grown", x.water(0, 1), 5);
    }

    /** "and of DAY when RIGHTS are read": by the MORNING, not by the LEVEL */
    private static void droughtIsAskedOfDayWhenRightsAreRead() {
        Court x = withWell(0, 100, 0, 20);
        x.read("turns 0: a 1;");
        due("draw", x.draw(0, 0, 20), 0);
        x.read("turns 0: a 1; drought 0 below 20 b;");
        due("by the MORNING", x.owner(0, 0), 0);
        x.read("turns 0: a 1; drought 0 below 21 b;");
        due("by the MORNING", x.owner(0, 0), 1);
        x.read("turns 0: a 1;");
        due("a rule that is no more", x.owner(0, 0), 0);
        x.read("turns 0: a 1; drought 0 below 21 b;");
        due("a fault", x.read("turns 0: a 1; drought 0 below 21 c; #"), -37);
        due("with a FAULT all stays", x.owner(0, 0), 1);
        x.days(1);
        x.read("");
        due("the DAY ahead of DAY stays", x.owner(0, 0), 1);
    }

    private static void droughtInPlaceOfNone() {
        Court x = withWell(0, 100, 0, 20);
        x.read("drought 0 below 21 b;");
        due("where turns tell none", x.owner(0, 0), 1);
        due("where turns tell none", x.may(0, 1), 1);
        due("DAYS behind", x.owner(0, 1), NONE);
    }

    private static void droughtOfAWellThatIsNotThere() {
        Court x = Court.with("turns 0: a 1; drought 0 below 1000 b;");
        due("it has no MORNING", x.owner(0, 0), 0);
        x.days(1);
        due("it has no MORNING", x.owner(0, 1), 0);
    }

    private static void droughtOnTheLastDay() {
        Court x = withWell(0, 200, 1, 0);
        x.read("turns 0: a 1; drought 0 below 199 b;");
        x.days(198);
        due("198 below 199", x.owner(0, 198), 1);
        x.days(1);
        due("199 is not", x.owner(0, 199), 0);
    }

    /** "WELL: a NUMBER 0 to 5", "CLAN: a WORD of one letter, a to f", of drought */
    private static void droughtOfEachWell() {
        for (int w = 0; w < 6; w++) {
            Court x = new Court();
            for (int v = 0; v < 6; v++) {
                x.well(v, 10, 1, 0);
            }
            x.read("drought " + w + " below 2 " + (char) ('a' + w) + ";");
            for (int day = 0; day < 3; day++) {
                for (int v = 0; v < 6; v++) {
                    due("owner of " + v, x.owner(v, day), v == w && day < 2 ? w : NONE);
                    due("it is right", x.may(v, w), v == w && day < 2 ? 1 : 0);
                }
                x.days(1);
            }
            due("it stays", x.owner(w, 1), w);
        }
    }

    private static void droughtTheTwentiethRule() {
        Court x = withWell(0, 10, 0, 5);
        due("rights", x.read("drought 0 below 5 a;".repeat(19) + "drought 0 below 6 f;"), 20);
        due("the twentieth", x.owner(0, 0), 5);
    }

    // ---- RIGHT and GUEST

    /** One CLAN may be wed to all others. */
    private static void wedToSeveral() {
        for (int clan = 0; clan < 6; clan++) {
            StringBuilder text = new StringBuilder("turns 0: " + (char) ('a' + clan) + " 1;");
            for (int other = 0; other < 6; other++) {
                if (other != clan) {
                    text.append("wed ").append((char) ('a' + (other < 3 ? clan : other))).append(' ').append((char) ('a' + (other < 3 ? other : clan))).append(';');
                }
            }
            Court x = withWell(0, 10, 0, 10);
            due("rights", x.read(text.toString()), 6);
            for (int other = 0; other < 6; other++) {
                due("all are right", x.may(0, other), 1);
            }
        }
    }

    /** "or wed to the OWNER (either way)" */
    private static void wedEitherWay() {
        for (String text : new String[] {"wed a f;", "wed f a;"}) {
            Court x = withWell(0, 10, 0, 10);
            x.read("turns 0: a 1, f 1;" + text);
            due("to the first", x.may(0, 5), 1);
            due("no other", x.may(0, 1), 0);
            x.days(1);
            due("to the second", x.may(0, 0), 1);
            due("no other", x.may(0, 1), 0);
        }
        Court x = withWell(0, 10, 0, 10);
        x.read("turns 0: a 1; wed a b; wed b c;");
        due("kin", x.may(0, 1), 1);
        due("kin of kin", x.may(0, 2), 0);
        x.read("wed a b;");
        due("to no OWNER", x.may(0, 0), 0);
        x.read("turns 0: c 1; drought 0 below 11 a; wed a b;");
        due("to the drought's CLAN", x.may(0, 1), 1);
        due("not to the other", x.may(0, 2), 0);
    }

    /** "or OWNER of another WELL whose MORNING is 0, with a dry rule from that one to this one" */
    private static void dryWhenTheMorningIsZero() {
        for (int morning = 0; morning <= 1; morning++) {
            Court x = new Court();
            x.well(0, 10, 0, 10);
            x.well(5, 10, 0, morning);
            x.well(3, 10, 0, 0);
            x.read("turns 0: a 1; turns 5: b 1; turns 3: c 1; dry 5 to 0; dry 0 to 3; wed b d;");
            due("OWNER of a WELL with MORNING " + morning, x.may(0, 1), 1 - morning);
            due("its kin", x.may(0, 3), 0);
            due("no rule from there", x.may(0, 2), 0);
            due("not the other way", x.may(5, 0), 0);
            due("MORNING above 0", x.may(3, 0), 0);
            x.take(5, 0, 1);
            due("the MORNING, not the LEVEL", x.may(0, 1), 1 - morning);
            x.days(1);
            due("when the next DAY has begun", x.may(0, 1), 1);
        }
        Court y = new Court();
        y.well(0, 10, 0, 10);
        y.well(1, 10, 1, 0);
        y.read("turns 0: a 1; turns 1: b 1; dry 1 to 0;");
        due("on DAY 0", y.may(0, 1), 1);
        y.days(1);
        due("it has grown to 1", y.may(0, 1), 0);
    }

    private static void dryFromEachToEach() {
        for (int from = 0; from < 6; from++) {
            for (int to = 0; to < 6; to++) {
                if (from == to) {
                    continue;
                }
                Court x = new Court();
                StringBuilder text = new StringBuilder();
                for (int w = 0; w < 6; w++) {
                    x.well(w, 10, 0, 0);
                    text.append("turns ").append(w).append(": ").append((char) ('a' + w)).append(" 1;");
                }
                due("rights", x.read(text + "dry " + from + " to " + to + ";"), 7);
                for (int w = 0; w < 6; w++) {
                    for (int clan = 0; clan < 6; clan++) {
                        due("dry " + from + " to " + to, x.may(w, clan), clan == w || w == to && clan == from ? 1 : 0);
                    }
                }
            }
        }
    }

    /** Several rules may lead to one WELL, and several from one. */
    private static void dryFromSeveral() {
        Court x = new Court();
        for (int w = 0; w < 6; w++) {
            x.well(w, 10, 0, w == 2 ? 5 : 0);
        }
        x.read("turns 0: a 1;turns 1: b 1;turns 2: c 1;turns 3: d 1;turns 5: f 1; dry 0 to 2; dry 1 to 2; dry 5 to 2; dry 0 to 3; dry 2 to 3;");
        due("from 0", x.may(2, 0), 1);
        due("from 1", x.may(2, 1), 1);
        due("from 3", x.may(2, 3), 0);
        due("from 5", x.may(2, 5), 1);
        due("from 0 to another", x.may(3, 0), 1);
        due("one that is not dry", x.may(3, 2), 0);
    }

    private static void dryOfAWellThatIsNotThere() {
        Court x = withWell(0, 10, 0, 10);
        x.read("turns 0: a 1; turns 1: b 1; dry 1 to 0;");
        due("it has no MORNING", x.may(0, 1), 0);
        x.well(1, 10, 0, 0);
        due("now it has", x.may(0, 1), 1);
        Court y = withWell(1, 10, 0, 0);
        y.read("dry 1 to 0; dry 1 to 2;");
        y.well(0, 10, 0, 10);
        due("without OWNER", y.may(0, 0), 0);
    }

    /** "GUEST: none of these, but there is a guest rule of it at the WELL of the OWNER" */
    private static void guestOfTheOwner() {
        Court x = withWell(0, 10, 0, 10);
        x.well(1, 10, 0, 0);
        x.read("turns 0: a 1, b 1; turns 1: f 1; guest c at 0 of a 0; guest d at 1 of a 5; guest e at 0 of b 5; guest f at 0 of a 1;"
                + "dry 1 to 0; guest c at 1 of f 1;");
        due("of MANY 0", x.may(0, 2), 2);
        due("at another WELL", x.may(0, 3), 0);
        due("of another CLAN", x.may(0, 4), 0);
        due("RIGHT by a dry WELL", x.may(0, 5), 1);
        due("at the other WELL", x.may(1, 2), 2);
        x.days(1);
        due("the OWNER is another one", x.may(0, 2), 0);
        due("the OWNER is this one", x.may(0, 4), 2);
        x.read("guest c at 0 of a 5;");
        due("of no OWNER", x.may(0, 2), 0);
        x.read("turns 0: b 1; drought 0 below 11 a; guest c at 0 of a 5; guest e at 0 of b 5;");
        due("of the drought's CLAN", x.may(0, 2), 2);
        due("not of the other", x.may(0, 4), 0);
    }

    private static void guestOfEachAtEach() {
        for (int guest = 0; guest < 6; guest++) {
            int host = 5 - guest;
            for (int at = 0; at < 6; at++) {
                Court x = new Court();
                StringBuilder text = new StringBuilder();
                for (int w = 0; w < 6; w++) {
                    x.well(w, 10, 0, 10);
                    text.append("turns ").append(w).append(": ").append((char) ('a' + host)).append(" 1;");
                }
                x.read(text + "guest " + (char) ('a' + guest) + " at " + at + " of " + (char) ('a' + host) + " 1;");
                for (int w = 0; w < 6; w++) {
                    for (int clan = 0; clan < 6; clan++) {
                        due("guest", x.may(w, clan), clan == host ? 1 : clan == guest && w == at ? 2 : 0);
                    }
                }
            }
        }
    }

    // ---- Promises 8 and 10

    /** "0 LEVEL, 1 MORNING, 2 CAP, 3 RATE. NONE: another what" */
    private static void waterOfWhat() {
        Court x = withWell(0, 60, 4, 30);
        x.take(0, 0, 3);
        int[] want = {27, 30, 60, 4};
        for (int what = 0; what < 4; what++) {
            due("what " + what, x.water(0, what), want[what]);
        }
        for (int what : new int[] {-1, 4, LOW, HIGH}) {
            due("what " + what, x.water(0, what), NONE);
        }
    }

    /** "Of WELL w. NONE: there is none" */
    private static void waterOfWells() {
        Court x = new Court();
        x.well(0, 60, 4, 30);
        x.well(5, 70, 5, 40);
        for (int what = 0; what < 4; what++) {
            for (int w : new int[] {-1, 1, 4, 6, LOW, HIGH}) {
                due("well " + w, x.water(w, what), NONE);
            }
        }
        due("well 0", x.water(0, 2), 60);
        due("well 5", x.water(5, 2), 70);
    }

    /** "NONE: no such WELL, CLAN" */
    private static void mayOfWellsAndClans() {
        Court x = Court.with("turns 0: a 1; turns 5: f 1; turns 4: a 1;");
        x.well(0, 10, 0, 10);
        x.well(5, 10, 0, 10);
        for (int wrong : new int[] {-1, 6, LOW, HIGH}) {
            due("clan " + wrong, x.may(0, wrong), NONE);
            due("clan " + wrong, x.may(5, wrong), NONE);
            due("well " + wrong, x.may(wrong, 0), NONE);
            due("both " + wrong, x.may(wrong, wrong), NONE);
        }
        due("a WELL that is not there", x.may(4, 0), NONE);
        due("clan a", x.may(0, 0), 1);
        due("clan f", x.may(5, 5), 1);
        due("neither", x.may(0, 5), 0);
        due("neither", x.may(5, 0), 0);
    }

    // ---- Promise 11

    /** "NONE, if it can't be: a DAY that is not behind DAY" */
    private static void lendDaysBehindDay() {
        for (int day : new int[] {0, 1, 50}) {
            Court x = Court.with("turns 0: a 1, b 1;");
            x.days(day);
            int owner = day % 2;
            due("DAY", x.lend(0, day, 1 - owner), NONE);
            due("ahead of DAY", x.lend(0, day - 1, owner), NONE);
            due("DAY -1", x.lend(0, -1, 0), NONE);
            due("DAY stays", x.owner(0, day), owner);
            due("behind it", x.owner(0, day + 1), 1 - owner);
            due("the first behind DAY", x.lend(0, day + 1, owner), day + 2);
            due("lent", x.owner(0, day + 1), owner);
            due("given back", x.owner(0, day + 2), 1 - owner);
        }
    }

    /** "no DAY behind it is that CLAN's", and there is no DAY behind 199 */
    private static void lendUpToDay199() {
        Court x = Court.with("turns 0: a 1, b 1, c 1;");
        due("199 is b's", x.owner(0, 199), 1);
        due("199", x.lend(0, 199, 0), NONE);
        due("200", x.lend(0, 200, 0), NONE);
        due("high", x.lend(0, HIGH, 0), NONE);
        due("low", x.lend(0, LOW, 0), NONE);
        due("c has none behind 198", x.lend(0, 198, 2), NONE);
        due("nothing is changed", x.owner(0, 198), 0);
        due("nothing is changed", x.owner(0, 199), 1);
        due("198 to b", x.lend(0, 198, 1), 199);
        due("lent", x.owner(0, 198), 1);
        due("given back", x.owner(0, 199), 0);
        x.days(198);
        due("199 on DAY 198", x.lend(0, 199, 1), NONE);
        x.days(1);
        due("199 on DAY 199", x.lend(0, 199, 1), NONE);
        due("199 stays", x.owner(0, 199), 0);
    }

    /** "the first DAY behind that one of which that other CLAN is OWNER becomes the first one's" */
    private static void lendTheFirstDayBehind() {
        Court x = Court.with("turns 0: b 3, a 9, c 1, b 2;");
        due("b owns 1, 2 ahead of it and 13, 14 behind it", x.lend(0, 5, 1), 13);
        due("ahead of it", x.owner(0, 2), 1);
        due("the DAY ahead", x.owner(0, 4), 0);
        due("lent", x.owner(0, 5), 1);
        due("the DAY behind", x.owner(0, 6), 0);
        due("c's", x.owner(0, 12), 2);
        due("given back", x.owner(0, 13), 0);
        due("the next one", x.owner(0, 14), 1);
        due("the very next DAY", x.lend(0, 11, 2), 12);
        due("lent", x.owner(0, 11), 2);
        due("given back", x.owner(0, 12), 0);
    }

    /** "no such WELL (0 to 5) or CLAN" */
    private static void lendWellsAndClans() {
        Court x = Court.with("turns 0: a 1, f 1; turns 5: a 1, f 1;");
        for (int wrong : new int[] {-1, 6, LOW, HIGH}) {
            due("well " + wrong, x.lend(wrong, 1, 0), NONE);
            due("clan " + wrong, x.lend(0, 1, wrong), NONE);
        }
        for (int day = 0; day < 10; day++) {
            due("nothing is changed", x.owner(0, day), day % 2 * 5);
        }
        due("well 0, which is not there, clan a", x.lend(0, 1, 0), 2);
        due("well 5, clan f", x.lend(5, 2, 5), 3);
        due("well 0", x.owner(0, 1), 0);
        due("well 5", x.owner(5, 1), 5);
        due("well 5", x.owner(5, 2), 5);
        due("well 5", x.owner(5, 3), 0);
    }

    /** "a DAY that has no OWNER" */
    private static void lendDaysWithoutOwner() {
        Court x = Court.with("turns 0: a 1;");
        due("no OWNER", x.lend(1, 5, 0), NONE);
        due("no OWNER", x.owner(1, 5), NONE);
        x.well(2, 10, 0, 0);
        x.read("turns 0: a 1; drought 2 below 1 b;");
        due("DAY has one by drought", x.owner(2, 0), 1);
        due("the DAY behind has none", x.lend(2, 1, 0), NONE);
    }

    /** "or that one" */
    private static void lendToTheOwner() {
        Court x = Court.with("turns 0: a 1, b 1;");
        due("b's own", x.lend(0, 1, 1), NONE);
        due("a's own", x.lend(0, 2, 0), NONE);
        due("to one that never is OWNER", x.lend(0, 1, 2), NONE);
        for (int day = 0; day < 200; day++) {
            due("nothing is changed", x.owner(0, day), day % 2);
        }
    }

    /** A DAY that was lent or given back is as any other. */
    private static void lendAgain() {
        Court x = Court.with("turns 0: a 1, b 1, c 1;");
        due("1 to a", x.lend(0, 1, 0), 3);
        due("1 to c", x.lend(0, 1, 2), 2);
        due("1 is c's", x.owner(0, 1), 2);
        due("2 is a's", x.owner(0, 2), 0);
        due("3 is b's", x.owner(0, 3), 1);
        due("3 to a", x.lend(0, 3, 0), 6);
        due("6 is b's", x.owner(0, 6), 1);
        due("2 to b", x.lend(0, 2, 1), 4);
        due("4 is a's", x.owner(0, 4), 0);
    }

    // ---- the object

    /** "An object is used for at most 512 calls": the 512th is still as told. */
    private static void theLast512Calls() {
        Court x = withWell(0, 1000, 1, 0);
        x.days(199);
        while (x.calls() < Court.MOST_CALLS - 1) {
            due("level", x.water(0, 0), 199);
        }
        due("the 512th call", x.count(0), 199);
        due("calls", x.calls(), 512);
    }
}
