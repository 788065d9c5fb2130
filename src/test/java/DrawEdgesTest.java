/**
 * The sentences on draws that name a boundary (Terms ==== 4., promises 12 to 16): the last value
 * that is as told, and the first that is not.
 */
public final class DrawEdgesTest {
    private static final int NONE = WellCourt.NONE;
    private static final int LOW = Integer.MIN_VALUE;
    private static final int HIGH = Integer.MAX_VALUE;
    private static final int[] WRONG = {-1, 6, LOW, HIGH};

    public static void main(String[] args) {
        drawWellsAndClans();
        drawAmounts();
        drawOfWellsThatAreNotThere();
        drawNeitherRightNorGuest();
        drawUpToLevel();
        drawTheFirstOfTheAnswers();
        drawsAreThreeHundred();
        guestUpToMany();
        guestOfMostMany();
        guestInAllOnDay();
        guestAtThatWell();
        guestOrNot();
        guestTheFirstRule();
        guestOfAnotherOwner();
        takeWellsClansAndAmounts();
        takeByOneThatIsRight();
        takeByAGuest();
        takeUpToLevel();
        drawsOfDrawAndTake();
        reportWhatIsThere();
        reportOnce();
        drawnWhatIsThere();
        drawnWhat();
        judgeClansAndWhats();
        judgeFromTo();
        judgeKnownOnDay();
        judgeRightAsKnownThen();
        judgeNotBelowZero();
        judgeOfAGuest();
        judgeTellsWhatWasSo();
        judgeTheMost();
        judgeWithoutDraws();
        Check.finish();
    }

    private static void due(String call, long got, long want) {
        Check.due(call, got, want);
    }

    private static void due(String call, boolean got, boolean want) {
        Check.due(call, got, want);
    }

    /** A and f are right at wells 0 and 5. */
    private static Court twoWells() {
        Court x = Court.with("turns 0: a 1; turns 5: f 1; turns 4: a 1;");
        x.well(0, 1000, 0, 1000);
        x.well(5, 1000, 0, 1000);
        return x;
    }

    // ---- Promise 12

    /** "1 no such WELL, CLAN" */
    private static void drawWellsAndClans() {
        Court x = twoWells();
        for (int wrong : WRONG) {
            due("draw at " + wrong, x.draw(wrong, 0, 1), 1);
            due("draw by " + wrong, x.draw(0, wrong, 1), 1);
            due("draw of both " + wrong, x.draw(wrong, wrong, 1), 1);
        }
        due("no draws", x.count(4), 0);
        due("level", x.water(0, 0), 1000);
        due("well 0, clan a", x.draw(0, 0, 1), 0);
        due("well 5, clan f", x.draw(5, 5, 1), 0);
        due("draws", x.count(4), 2);
    }

    /** "1 no such amount (1 to 1000)" */
    private static void drawAmounts() {
        Court x = twoWells();
        for (int amount : new int[] {0, -1, 1001, LOW, HIGH}) {
            due("amount " + amount, x.draw(0, 0, amount), 1);
            due("level", x.water(0, 0), 1000);
        }
        due("no draws", x.count(4), 0);
        due("amount 1", x.draw(0, 0, 1), 0);
        due("level", x.water(0, 0), 999);
        due("amount 1000", x.draw(5, 5, 1000), 0);
        due("level", x.water(5, 0), 0);
    }

    private static void drawOfWellsThatAreNotThere() {
        Court x = twoWells();
        for (int w = 1; w <= 4; w++) {
            due("well " + w, x.draw(w, 0, 1), 1);
            due("well " + w, x.take(w, 1, 1), 1);
        }
        x.well(4, 10, 0, 10);
        due("now it is there", x.draw(4, 0, 1), 0);
    }

    /** "2 neither RIGHT nor GUEST" */
    private static void drawNeitherRightNorGuest() {
        Court x = Court.with("turns 0: a 1; wed a b; guest c at 0 of a 5; turns 1: d 1; dry 1 to 0;");
        x.well(0, 1000, 0, 1000);
        x.well(1, 1000, 0, 0);
        x.well(2, 1000, 0, 1000);
        due("OWNER", x.draw(0, 0, 1), 0);
        due("kin", x.draw(0, 1, 1), 0);
        due("GUEST", x.draw(0, 2, 1), 0);
        due("OWNER of a dry WELL", x.draw(0, 3, 1), 0);
        due("neither", x.draw(0, 4, 1), 2);
        due("neither, without OWNER", x.draw(2, 0, 1), 2);
        due("draws", x.count(4), 4);
        due("level", x.water(0, 0), 996);
    }

    /** "4 more than LEVEL" */
    private static void drawUpToLevel() {
        Court x = Court.with("turns 0: a 1;");
        x.well(0, 1000, 0, 20);
        due("21 of 20", x.draw(0, 0, 21), 4);
        due("1000 of 20", x.draw(0, 0, 1000), 4);
        due("level", x.water(0, 0), 20);
        due("no draws", x.count(4), 0);
        due("19 of 20", x.draw(0, 0, 19), 0);
        due("2 of 1", x.draw(0, 0, 2), 4);
        due("1 of 1", x.draw(0, 0, 1), 0);
        due("1 of none", x.draw(0, 0, 1), 4);
        due("level", x.water(0, 0), 0);
        due("draws", x.count(4), 2);
        Court y = Court.with("turns 0: a 1;");
        y.well(0, 1000, 0, 1000);
        due("all of 1000", y.draw(0, 0, 1000), 0);
        Court z = Court.with("turns 0: a 1;");
        z.well(0, 1000, 0, 999);
        due("1000 of 999", z.draw(0, 0, 1000), 4);
    }

    /** "the first of" 1, 2, 3, 4 */
    private static void drawTheFirstOfTheAnswers() {
        Court x = Court.with("turns 0: a 1; guest b at 0 of a 5; turns 1: a 1;");
        x.well(0, 1000, 0, 3);
        due("1 ahead of 2", x.draw(0, 2, 1001), 1);
        due("1 ahead of 3", x.draw(0, 1, 1001), 1);
        due("1 ahead of 4", x.draw(0, 0, 1001), 1);
        due("1 ahead of 2", x.draw(0, 2, 0), 1);
        due("2 ahead of 4", x.draw(0, 2, 4), 2);
        due("3 ahead of 4", x.draw(0, 1, 6), 3);
        due("4", x.draw(0, 1, 5), 4);
        due("4", x.draw(0, 0, 4), 4);
        due("0", x.draw(0, 1, 3), 0);
    }

    /** "1 .. or there are 300 DRAWS", "0, 1, .. (300 at most)" */
    private static void drawsAreThreeHundred() {
        Court x = Court.with("turns 0: a 1;");
        x.well(0, 1000, 0, 1000);
        for (int k = 0; k < 299; k++) {
            due("draw " + k, k % 3 == 0 ? x.take(0, 1, 1) : x.draw(0, 0, 1), 0);
        }
        due("299 draws", x.count(4), 299);
        due("refused ones are none", x.draw(0, 0, 900), 4);
        due("refused ones are none", x.draw(0, 1, 1), 2);
        due("refused ones are none", x.take(0, 0, 1), 5);
        due("the 300th", x.take(0, 1, 2), 0);
        due("300 draws", x.count(4), 300);
        due("the 301st by draw", x.draw(0, 0, 1), 1);
        due("the 301st by take", x.take(0, 1, 1), 1);
        due("1 ahead of 2", x.draw(0, 1, 1), 1);
        due("1 ahead of 5", x.take(0, 0, 1), 1);
        due("300 draws", x.count(4), 300);
        due("level", x.water(0, 0), 699);
        due("the last one", x.drawn(299, 3), 2);
        due("no other", x.drawn(300, 3), Face.THROWS);
        due("the last one", x.report(299), true);
        due("no other", x.report(300), false);
        x.days(1);
        due("on the next DAY", x.draw(0, 0, 1), 1);
        Court y = Court.with("turns 0: a 1;");
        y.well(0, 1000, 0, 1000);
        for (int k = 0; k < 300; k++) {
            due("draw " + k, y.draw(0, 0, 1), 0);
        }
        due("the 301st by draw", y.draw(0, 0, 1), 1);
        due("300 draws", y.count(4), 300);
    }

    /** "3 as GUEST more than MANY in all on DAY" */
    private static void guestUpToMany() {
        for (int many = 0; many <= 3; many++) {
            Court x = Court.with("turns 0: a 1; guest b at 0 of a " + many + ";");
            x.well(0, 1000, 0, 1000);
            due("a GUEST", x.may(0, 1), 2);
            due("MANY and 1", x.draw(0, 1, many + 1), 3);
            due("no draws", x.count(4), 0);
            due("level", x.water(0, 0), 1000);
            if (many > 0) {
                due("MANY", x.draw(0, 1, many), 0);
            }
            due("1 more", x.draw(0, 1, 1), 3);
            due("still a GUEST", x.may(0, 1), 2);
        }
    }

    private static void guestOfMostMany() {
        Court x = Court.with("turns 0: a 1; guest b at 0 of a 1000; guest c at 0 of a 999;");
        x.well(0, 1000, 0, 1000);
        due("1000 of 999", x.draw(0, 2, 1000), 3);
        due("1000 of 1000", x.draw(0, 1, 1000), 0);
        due("1 more", x.draw(0, 1, 1), 3);
        due("nothing is left", x.draw(0, 2, 999), 4);
    }

    /** "more than MANY in all on DAY" */
    private static void guestInAllOnDay() {
        Court x = Court.with("turns 0: a 1; guest b at 0 of a 10; guest c at 0 of a 10;");
        x.well(0, 1000, 0, 1000);
        due("4", x.draw(0, 1, 4), 0);
        due("4 and 7", x.draw(0, 1, 7), 3);
        due("4 and 6", x.draw(0, 1, 6), 0);
        due("10 and 1", x.draw(0, 1, 1), 3);
        due("another CLAN", x.draw(0, 2, 10), 0);
        due("the OWNER", x.draw(0, 0, 11), 0);
        x.days(1);
        due("11 on the next DAY", x.draw(0, 1, 11), 3);
        due("10 on the next DAY", x.draw(0, 1, 10), 0);
        due("1 more", x.draw(0, 1, 1), 3);
        due("draws", x.count(4), 5);
    }

    /** "draws by draw() .. at that WELL" */
    private static void guestAtThatWell() {
        Court x = Court.with("turns 0: a 1; turns 1: a 1; guest b at 0 of a 10; guest b at 1 of a 3;");
        x.well(0, 1000, 0, 1000);
        x.well(1, 1000, 0, 1000);
        due("10 here", x.draw(0, 1, 10), 0);
        due("4 there", x.draw(1, 1, 4), 3);
        due("3 there", x.draw(1, 1, 3), 0);
        due("1 more here", x.draw(0, 1, 1), 3);
        due("1 more there", x.draw(1, 1, 1), 3);
    }

    /** "draws by draw() as GUEST or not": those by take() do not count, those as OWNER do */
    private static void guestOrNot() {
        Court x = Court.with("turns 0: b 1;");
        x.well(0, 1000, 0, 1000);
        due("as OWNER", x.draw(0, 1, 6), 0);
        x.read("turns 0: a 1; guest b at 0 of a 10;");
        due("by take", x.take(0, 1, 100), 0);
        due("6 and 5", x.draw(0, 1, 5), 3);
        due("6 and 4", x.draw(0, 1, 4), 0);
        due("1 more", x.draw(0, 1, 1), 3);
        x.read("turns 0: a 1; guest b at 0 of a 11;");
        due("by another rule", x.draw(0, 1, 2), 3);
        due("by another rule", x.draw(0, 1, 1), 0);
        x.read("turns 0: a 1; guest b at 0 of a 5;");
        due("more than MANY is drawn already", x.draw(0, 1, 1), 3);
        x.read("turns 0: b 1;");
        due("an OWNER has no MANY", x.draw(0, 1, 500), 0);
    }

    /** "it may draw MANY in all on DAY (the first such rule)" */
    private static void guestTheFirstRule() {
        Court x = Court.with("turns 0: a 1; guest b at 1 of a 50; guest b at 0 of c 60; guest c at 0 of a 70; guest b at 0 of a 5; guest b at 0 of a 9;");
        x.well(0, 1000, 0, 1000);
        due("6 of 5", x.draw(0, 1, 6), 3);
        due("5 of 5", x.draw(0, 1, 5), 0);
        x.read("turns 0: a 1; guest b at 0 of a 9; guest b at 0 of a 5;");
        due("5 and 5 of 9", x.draw(0, 1, 5), 3);
        due("5 and 4 of 9", x.draw(0, 1, 4), 0);
    }

    private static void guestOfAnotherOwner() {
        Court x = Court.with("turns 0: a 1, c 1; guest b at 0 of a 5; guest b at 0 of c 7;");
        x.well(0, 1000, 0, 1000);
        due("6 of 5", x.draw(0, 1, 6), 3);
        due("5 of 5", x.draw(0, 1, 5), 0);
        x.days(1);
        due("8 of 7", x.draw(0, 1, 8), 3);
        due("7 of 7", x.draw(0, 1, 7), 0);
    }

    // ---- Promise 13

    /** "1 as draw()" */
    private static void takeWellsClansAndAmounts() {
        Court x = twoWells();
        for (int wrong : WRONG) {
            due("take at " + wrong, x.take(wrong, 1, 1), 1);
            due("take by " + wrong, x.take(0, wrong, 1), 1);
        }
        for (int amount : new int[] {0, -1, 1001, LOW, HIGH}) {
            due("amount " + amount, x.take(0, 1, amount), 1);
        }
        due("no draws", x.count(4), 0);
        due("level", x.water(0, 0), 1000);
        due("well 0, clan f", x.take(0, 5, 1), 0);
        due("well 5, clan a", x.take(5, 0, 1000), 0);
        due("draws", x.count(4), 2);
        due("level", x.water(0, 0), 999);
        due("level", x.water(5, 0), 0);
    }

    /** "5 it is RIGHT (asked behind 1)", and ahead of 4 */
    private static void takeByOneThatIsRight() {
        Court x = Court.with("turns 0: a 1; wed a b; turns 1: d 1; dry 1 to 0;");
        x.well(0, 1000, 0, 10);
        x.well(1, 1000, 0, 0);
        due("OWNER", x.take(0, 0, 1), 5);
        due("kin", x.take(0, 1, 1), 5);
        due("OWNER of a dry WELL", x.take(0, 3, 1), 5);
        due("1 ahead of 5", x.take(0, 0, 0), 1);
        due("1 ahead of 5", x.take(0, 0, 1001), 1);
        due("5 ahead of 4", x.take(0, 0, 11), 5);
        due("no draws", x.count(4), 0);
        due("level", x.water(0, 0), 10);
        due("another", x.take(0, 4, 1), 0);
    }

    /** "A CLAN that is not RIGHT (a GUEST, too)" */
    private static void takeByAGuest() {
        Court x = Court.with("turns 0: a 1; guest b at 0 of a 5;");
        x.well(0, 1000, 0, 100);
        due("more than MANY", x.take(0, 1, 50), 0);
        due("it is not RIGHT", x.drawn(0, 4), 0);
        due("not KNOWN", x.drawn(0, 5), NONE);
        due("MANY is left", x.draw(0, 1, 5), 0);
        due("RIGHT", x.drawn(1, 4), 1);
    }

    /** "4 as draw()" */
    private static void takeUpToLevel() {
        Court x = Court.with("turns 0: a 1;");
        x.well(0, 1000, 0, 20);
        due("21 of 20", x.take(0, 1, 21), 4);
        due("no draws", x.count(4), 0);
        due("level", x.water(0, 0), 20);
        due("20 of 20", x.take(0, 1, 20), 0);
        due("1 of none", x.take(0, 1, 1), 4);
        due("draws", x.count(4), 1);
    }

    /** "Those by draw() are RIGHT (a GUEST's, too) and KNOWN on their DAY; those by take() are not" */
    private static void drawsOfDrawAndTake() {
        Court x = Court.with("turns 0: a 1; guest b at 0 of a 5;");
        x.well(0, 1000, 0, 1000);
        for (int day : new int[] {0, 1, 199}) {
            x.days(day - x.count(0));
            int k = x.count(4);
            due("OWNER", x.draw(0, 0, 1), 0);
            due("GUEST", x.draw(0, 1, 1), 0);
            due("take", x.take(0, 2, 1), 0);
            for (int i = 0; i < 3; i++) {
                due("DAY", x.drawn(k + i, 0), day);
                due("CLAN", x.drawn(k + i, 2), i);
                due("RIGHT", x.drawn(k + i, 4), i < 2 ? 1 : 0);
                due("KNOWN", x.drawn(k + i, 5), i < 2 ? day : NONE);
            }
        }
    }

    // ---- Promise 14

    /** "false, if there is none such" */
    private static void reportWhatIsThere() {
        Court x = twoWells();
        due("ahead of any", x.report(0), false);
        x.take(0, 1, 1);
        x.take(0, 1, 2);
        for (int k : new int[] {-1, 2, 300, LOW, HIGH}) {
            due("report " + k, x.report(k), false);
        }
        due("not KNOWN", x.drawn(0, 5), NONE);
        due("not KNOWN", x.drawn(1, 5), NONE);
        due("the last", x.report(1), true);
        due("not KNOWN", x.drawn(0, 5), NONE);
        due("the first", x.report(0), true);
    }

    /** "KNOWN from DAY on: true; false, if it is KNOWN" */
    private static void reportOnce() {
        Court x = twoWells();
        x.take(0, 1, 1);
        x.take(0, 1, 1);
        x.take(0, 1, 1);
        x.draw(0, 0, 1);
        due("on its own DAY", x.report(0), true);
        due("KNOWN", x.drawn(0, 5), 0);
        x.days(1);
        due("again", x.report(0), false);
        due("KNOWN", x.drawn(0, 5), 0);
        due("one by draw", x.report(3), false);
        due("KNOWN", x.drawn(3, 5), 0);
        due("on the next DAY", x.report(1), true);
        due("KNOWN", x.drawn(1, 5), 1);
        x.days(198);
        due("again", x.report(1), false);
        due("on the last DAY", x.report(2), true);
        due("KNOWN", x.drawn(2, 5), 199);
        due("KNOWN", x.drawn(1, 5), 1);
    }

    // ---- Promise 15

    /** "NoSuchElementException: there is none such" */
    private static void drawnWhatIsThere() {
        Court x = twoWells();
        for (int what = 0; what < 6; what++) {
            due("ahead of any", x.drawn(0, what), Face.THROWS);
        }
        x.take(0, 1, 7);
        x.take(0, 1, 8);
        for (int k : new int[] {-1, 2, 299, 300, LOW, HIGH}) {
            due("drawn " + k, x.drawn(k, 3), Face.THROWS);
        }
        due("the first", x.drawn(0, 3), 7);
        due("the last", x.drawn(1, 3), 8);
        due("draws", x.count(4), 2);
    }

    /** "or another what" */
    private static void drawnWhat() {
        Court x = Court.with("turns 5: f 1;");
        x.well(5, 1000, 0, 1000);
        x.days(3);
        x.draw(5, 5, 1000);
        long[] want = {3, 5, 5, 1000, 1, 3};
        for (int what : new int[] {-1, 6, LOW, HIGH}) {
            due("what " + what, x.drawn(0, what), Face.THROWS);
            due("what " + what + " of none", x.drawn(1, what), Face.THROWS);
        }
        for (int what = 0; what < 6; what++) {
            due("what " + what, x.drawn(0, what), want[what]);
        }
    }

    // ---- Promise 16

    /** "NONE: no such CLAN, or another what" */
    private static void judgeClansAndWhats() {
        Court x = twoWells();
        x.draw(0, 0, 5);
        x.take(0, 5, 7);
        for (int wrong : WRONG) {
            for (int what = 0; what < 4; what++) {
                due("clan " + wrong, x.judge(wrong, 0, 199, 199, what), NONE);
            }
        }
        for (int what : new int[] {-1, 4, LOW, HIGH}) {
            due("what " + what, x.judge(0, 0, 199, 199, what), NONE);
        }
        due("clan a", x.judge(0, 0, 199, 199, 0), 5);
        due("clan f", x.judge(5, 0, 199, 199, 0), 7);
        due("clan f", x.judge(5, 0, 199, 199, 1), 7);
        due("clan f", x.judge(5, 0, 199, 199, 3), 0);
        due("clan b", x.judge(1, 0, 199, 199, 0), 0);
    }

    /** "on DAYS from .. to, together" */
    private static void judgeFromTo() {
        Court x = twoWells();
        int[] drew = {0, 0, 10, 200, 0};
        for (int day = 0; day < 5; day++) {
            if (drew[day] > 0) {
                due("take", x.take(0, 1, drew[day]), 0);
                due("report", x.report(x.count(4) - 1), true);
            }
            x.days(1);
        }
        for (int from = -1; from <= 5; from++) {
            for (int to = -1; to <= 5; to++) {
                int want = (from <= 2 && to >= 2 ? 10 : 0) + (from <= 3 && to >= 3 ? 200 : 0);
                for (int what = 0; what < 4; what++) {
                    due("from " + from + " to " + to + " what " + what, x.judge(1, from, to, 9, what), what == 3 ? 2 * want : want);
                }
            }
        }
        due("wide", x.judge(1, LOW, HIGH, HIGH, 0), 210);
        due("turned round", x.judge(1, HIGH, LOW, HIGH, 0), 0);
        due("from the first DAY on", x.judge(1, 2, 2, LOW, 1), 10);
    }

    /** "2 of that what was KNOWN on DAY day already" */
    private static void judgeKnownOnDay() {
        Court x = twoWells();
        x.take(0, 1, 10);
        x.take(0, 1, 200);
        x.days(3);
        x.report(0);
        for (int day : new int[] {LOW, -2, -1, 0, 2, 3, 4, 199, HIGH}) {
            due("KNOWN on " + day, x.judge(1, 0, 0, day, 2), day >= 3 ? 10 : 0);
            due("all, on " + day, x.judge(1, 0, 0, day, 0), 210);
            due("not RIGHT, on " + day, x.judge(1, 0, 0, day, 1), 210);
            due("twice, on " + day, x.judge(1, 0, 0, day, 3), day >= 3 ? 20 : 0);
        }
    }

    /** "less what it drew when RIGHT as KNOWN then" */
    private static void judgeRightAsKnownThen() {
        Court x = twoWells();
        x.take(5, 0, 10);
        x.report(0);
        x.days(2);
        x.draw(0, 0, 3);
        for (int day = -1; day <= 3; day++) {
            due("on " + day, x.judge(0, 0, 9, day, 3), day < 0 ? 0 : day < 2 ? 20 : 17);
        }
        due("drawn on other DAYS", x.judge(0, 0, 1, 9, 3), 20);
        due("drawn on these DAYS alone", x.judge(0, 2, 2, 9, 3), 0);
    }

    /** "but not below 0" */
    private static void judgeNotBelowZero() {
        for (int right = 18; right <= 22; right++) {
            Court x = twoWells();
            x.take(5, 0, 10);
            x.report(0);
            x.draw(0, 0, right);
            due("twice 10 less " + right, x.judge(0, 0, 0, 0, 3), Math.max(0, 20 - right));
        }
    }

    /** "Those by draw() are RIGHT (a GUEST's, too)": so they lessen what 3 is, and are not in what 1 is */
    private static void judgeOfAGuest() {
        Court x = Court.with("turns 0: a 1; guest b at 0 of a 5;");
        x.well(0, 1000, 0, 1000);
        due("as GUEST", x.draw(0, 1, 5), 0);
        due("against the law", x.take(0, 1, 4), 0);
        x.report(1);
        int[] want = {9, 4, 4, 3};
        for (int what = 0; what < 4; what++) {
            due("what " + what, x.judge(1, 0, 0, 0, what), want[what]);
        }
    }

    /** RIGHT and KNOWN are told of each draw as it was: other RIGHTS behind it change nothing. */
    private static void judgeTellsWhatWasSo() {
        Court x = Court.with("turns 0: a 1;");
        x.well(0, 1000, 0, 1000);
        due("draw", x.draw(0, 0, 7), 0);
        due("take", x.take(0, 1, 30), 0);
        x.report(1);
        for (String text : new String[] {"turns 0: b 1;", "", "turns 0: c 1; guest b at 0 of c 900;"}) {
            x.read(text);
            due("it was RIGHT", x.drawn(0, 4), 1);
            due("it was not", x.drawn(1, 4), 0);
            due("a, without being RIGHT", x.judge(0, 0, 0, 0, 1), 0);
            due("b, without being RIGHT", x.judge(1, 0, 0, 0, 1), 30);
            due("b, twice", x.judge(1, 0, 0, 0, 3), 60);
        }
        due("a draws all the same", x.take(0, 0, 1), 0);
        due("a, without being RIGHT", x.judge(0, 0, 0, 0, 1), 1);
    }

    private static void judgeTheMost() {
        Court x = new Court();
        for (int w = 0; w < 6; w++) {
            x.well(w, 1000, 200, 1000);
        }
        for (int day = 0; day < 40; day++) {
            for (int w = 0; w < 6; w++) {
                due("take", x.take(w, 0, day == 0 ? 1000 : 200), 0);
            }
            x.days(1);
        }
        due("draws", x.count(4), 240);
        for (int k = 200; k < 240; k++) {
            due("report", x.report(k), true);
        }
        due("all", x.judge(0, 0, 199, 40, 0), 6000 + 234 * 200);
        due("KNOWN", x.judge(0, 0, 199, 40, 2), 40 * 200);
        due("twice", x.judge(0, 0, 199, 40, 3), 40 * 400);
        due("ahead of DAY 40", x.judge(0, 0, 199, 39, 3), 0);
    }

    private static void judgeWithoutDraws() {
        Court x = new Court();
        for (int clan = 0; clan < 6; clan++) {
            for (int what = 0; what < 4; what++) {
                due("none", x.judge(clan, LOW, HIGH, HIGH, what), 0);
            }
        }
    }
}
