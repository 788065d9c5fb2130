/** Each promise by its ordinary inputs, the edges that the document names and wrong inputs. */
public final class PromisesTest {
    private static final int NONE = WellCourt.NONE;
    private static final int LOW = Integer.MIN_VALUE;
    private static final int HIGH = Integer.MAX_VALUE;

    public static void main(String[] args) {
        promise1();
        promise2();
        promise3();
        promise4();
        promise5();
        promise5Owners();
        promise5NothingIsLeft();
        promise5TwentyOfAKind();
        promise6();
        promise7();
        promise7Drought();
        promise8();
        promise9();
        promise10();
        promise10Kin();
        promise10Dry();
        promise10Guest();
        promise11();
        promise12();
        promise12Guest();
        promise12Most();
        promise13();
        promise14();
        promise15();
        promise16();
        promise17();
        promise18();
        promise19();
        promise23();
        Check.finish();
    }

    private static void due(String call, long got, long want) {
        Check.due(call, got, want);
    }

    private static void due(String call, boolean got, boolean want) {
        Check.due(call, got, want);
    }

    private static void promise1() {
        due("NONE", WellCourt.NONE, -1);
        Court x = new Court();
        for (int what = 0; what <= 6; what++) {
            due("1 count " + what, x.count(what), 0);
        }
        for (int w = 0; w < 6; w++) {
            Court other = new Court();
            for (int day = 0; day < 200; day++) {
                due("1 owner", other.owner(w, day), NONE);
            }
            due("1 water", x.water(w, 0), NONE);
            due("1 may", x.may(w, 0), NONE);
        }
        due("1 fault", x.fault(), 0);
        due("1 far", x.far(), 0);
        due("1 step", x.step(0, 1), NONE);
        due("1 drawn", x.drawn(0, 0), Face.THROWS);
        due("1 plan", x.plan(1, 1), NONE);
        due("1 rights", x.rights(), 0);
    }

    private static void promise2() {
        Court x = new Court();
        due("2 feed", x.feed(0x77656420, 0x6120623b, 0x64727920, 0x3120746f, 0x20323b20), 20);
        due("2 bytes", x.count(5), 20);
        due("2 the highest byte comes first", x.rights(), 2);
        for (int i = 1; i <= 40; i++) {
            due("2 feed", x.feed(0x20202020, 0x20202020, 0x20202020, 0x20202020, i == 40 ? 0x202020ff : 0x20202020), 20 * i);
        }
        due("2 feed beyond 800", x.feed(0, 0, 0, 0, 0), NONE);
        due("2 bytes", x.count(5), 800);
        due("2 end", x.end(781), true);
        due("2 feed beyond 800", x.feed(0, 0, 0, 0, 0), NONE);
        due("2 bytes", x.count(5), 781);
        due("2 end", x.end(780), true);
        due("2 feed up to 800", x.feed(0x20202020, 0x20202020, 0x20202020, 0x20202020, 0x202020ff), 800);
        due("2 the last byte is no token", x.rights(), -1 - 799);
        due("2 fault", x.fault(), 1);
        due("2 bytes", x.count(5), 0);
    }

    private static void promise3() {
        Court x = new Court();
        due("3 end 0", x.end(0), true);
        due("3 end 1", x.end(1), false);
        x.feed(0x77656420, 0x6120623b, 0xffffffff, 0, 0);
        due("3 end 21", x.end(21), false);
        due("3 end -1", x.end(-1), false);
        due("3 end low", x.end(LOW), false);
        due("3 end high", x.end(HIGH), false);
        due("3 bytes", x.count(5), 20);
        due("3 end 20", x.end(20), true);
        due("3 end 8", x.end(8), true);
        due("3 bytes", x.count(5), 8);
        due("3 end 9", x.end(9), false);
        due("3 the first bytes stay", x.rights(), 1);
    }

    private static void promise4() {
        Court x = new Court();
        due("4 w -1", x.well(-1, 10, 1, 1), false);
        due("4 w 6", x.well(6, 10, 1, 1), false);
        due("4 w high", x.well(HIGH, 10, 1, 1), false);
        due("4 cap 0", x.well(0, 0, 1, 0), false);
        due("4 cap 1001", x.well(0, 1001, 1, 0), false);
        due("4 rate -1", x.well(0, 10, -1, 1), false);
        due("4 rate 201", x.well(0, 10, 201, 1), false);
        due("4 level -1", x.well(0, 10, 1, -1), false);
        due("4 level above cap", x.well(0, 10, 1, 11), false);
        due("4 wells", x.count(1), 0);
        due("4 least", x.well(0, 1, 0, 0), true);
        due("4 most", x.well(5, 1000, 200, 1000), true);
        due("4 wells", x.count(1), 2);
        due("4 again", x.well(5, 10, 1, 1), false);
        due("4 level", x.water(5, 0), 1000);
        due("4 morning", x.water(5, 1), 1000);
        due("4 cap", x.water(5, 2), 1000);
        due("4 rate", x.water(5, 3), 200);
        due("4 morning 0", x.water(0, 1), 0);
        x.days(3);
        due("4 a later well", x.well(2, 50, 7, 9), true);
        due("4 its morning", x.water(2, 1), 9);
        due("4 its level", x.water(2, 0), 9);
    }

    private static void promise5() {
        Court x = new Court();
        due("5 rules", x.read("turns 0: a 2, b 1; wed a b;\nwed c d;"), 3);
        due("5 tape", x.count(5), 0);
        due("5 fault", x.read("turns 1: c 2; wed a a;"), -1 - 20);
        due("5 tape behind a fault", x.count(5), 0);
        due("5 rules stay", x.count(2), 3);
        due("5 owner stays", x.owner(0, 2), 1);
        due("5 no new owner", x.owner(1, 0), NONE);
        x.well(0, 10, 0, 10);
        due("5 kin stays", x.may(0, 1), 1);
        due("5 a second text", x.read("turns 1: c 2;"), 1);
        due("5 old turns are gone", x.owner(0, 0), NONE);
        due("5 old kin is gone", x.may(0, 1), 0);
        due("5 of a well that is not there", x.owner(1, 199), 2);
        due("5 the empty text", x.read(""), 0);
        due("5 none without", x.owner(1, 199), NONE);
        due("5 blanks", x.read(" \n \n"), 0);
        due("5 tight", x.read("turns 0:a 1,b 2;wed a b;guest c at 0 of a 0;drought 0 below 0 a;dry 0 to 1;"), 5);
        due("5 numbers of four digits", x.read("turns 0005: a 0009; drought 0 below 1000 f;"), 2);
        due("5 owner", x.owner(5, 0), 0);
    }

    private static void promise5Owners() {
        Court x = Court.with("turns 0: a 2, b 3, c 1; turns 3: d 9, e 9, f 9, a 9, b 9, c 9, d 9, e 9;");
        for (int day = 0; day < 200; day++) {
            int at = day % 6;
            due("5 turns", x.owner(0, day), at < 2 ? 0 : at < 5 ? 1 : 2);
            due("5 long turns", x.owner(3, day), "defabcde".charAt(day % 72 / 9) - 'a');
        }
        due("5 lend", x.lend(0, 6, 1), 8);
        due("5 lend", x.lend(0, 12, 2), 17);
        x.days(8);
        due("5 again", x.read("turns 0: c 1, d 1;"), 1);
        due("5 ahead of DAY they stay", x.owner(0, 5), 2);
        due("5 what was lent ahead of DAY stays", x.owner(0, 6), 1);
        due("5 DAY is told anew", x.owner(0, 8), 2);
        due("5 turns are from DAY 0 on", x.owner(0, 9), 3);
        due("5 what was lent is forgotten", x.owner(0, 12), 2);
        due("5 what was given back is forgotten", x.owner(0, 17), 3);
        due("5 without turns ahead", x.owner(3, 7), 3);
        due("5 without turns behind", x.owner(3, 8), NONE);
    }

    /** Read thrice: what any earlier text said is gone, not only what the latest one said. */
    private static void promise5NothingIsLeft() {
        Court x = new Court();
        x.well(0, 10, 0, 0);
        x.well(1, 10, 0, 10);
        due("5 without rights none is right", x.may(0, 0), 0);
        due("5 rich", x.read("turns 0: a 1; turns 1: b 1; drought 0 below 1 c; wed b d; dry 0 to 1; guest e at 1 of b 1;"), 6);
        due("5 drought", x.owner(0, 0), 2);
        due("5 wed", x.may(1, 3), 1);
        due("5 dry", x.may(1, 2), 1);
        due("5 guest", x.may(1, 4), 2);
        for (int i = 0; i < 3; i++) {
            due("5 poor", x.read("turns 0: a 1; turns 1: b 1;"), 2);
            due("5 no drought", x.owner(0, 0), 0);
            due("5 not wed", x.may(1, 3), 0);
            due("5 not dry", x.may(1, 0), 0);
            due("5 no guest", x.may(1, 4), 0);
        }
    }

    /** Twenty rules of one kind, of which the last alone says something. */
    private static void promise5TwentyOfAKind() {
        Court x = new Court();
        x.well(0, 10, 0, 5);
        x.well(1, 10, 0, 5);
        due("5 droughts", x.read("drought 0 below 0 a;".repeat(19) + "drought 0 below 6 f;"), 20);
        due("5 the last drought", x.owner(0, 0), 5);
        due("5 guests", x.read("turns 1: b 1;" + "guest a at 0 of b 1;".repeat(18) + "guest e at 1 of b 3;"), 20);
        due("5 the last guest", x.may(1, 4), 2);
        due("5 its many", x.draw(1, 4, 4), 3);
        due("5 its many", x.draw(1, 4, 3), 0);
    }

    private static void promise6() {
        Court x = new Court();
        due("6 ahead of any", x.fault(), 0);
        x.read("#");
        due("6 kind 1", x.fault(), 1);
        x.read("wed");
        due("6 kind 2", x.fault(), 2);
        x.read("wed a a;");
        due("6 kind 3", x.fault(), 3);
        x.read("wed a b;".repeat(21));
        due("6 kind 4", x.fault(), 4);
        x.feed(0, 0, 0, 0, 0);
        x.next();
        due("6 stays", x.fault(), 4);
        x.read("wed a b;");
        due("6 without one", x.fault(), 0);
    }

    private static void promise7() {
        Court x = new Court();
        x.well(0, 25, 10, 3);
        x.well(1, 30, 0, 3);
        x.well(2, 200, 200, 0);
        due("7 DAY 0 begins without growth", x.water(0, 0), 3);
        x.days(1);
        due("7 level", x.water(0, 0), 13);
        due("7 morning", x.water(0, 1), 13);
        due("7 no rate", x.water(1, 0), 3);
        due("7 up to cap", x.water(2, 1), 200);
        due("7 take", x.take(0, 0, 5), 0);
        due("7 the morning stays", x.water(0, 1), 13);
        x.days(1);
        due("7 from the level on", x.water(0, 1), 18);
        x.days(1);
        due("7 cap", x.water(0, 0), 25);
        x.days(196);
        due("7 DAY", x.count(0), 199);
        due("7 take", x.take(0, 0, 5), 0);
        due("7 the last DAY", x.next(), false);
        due("7 DAY", x.count(0), 199);
        due("7 nothing grows", x.water(0, 0), 20);
    }

    private static void promise7Drought() {
        Court x = new Court();
        x.well(0, 100, 10, 0);
        x.well(2, 100, 10, 0);
        x.read("turns 0: a 1, b 1; drought 1 below 1000 f; drought 0 below 20 c; drought 0 below 40 d; drought 2 below 11 e;");
        due("7 asked when rights are read", x.owner(0, 0), 2);
        due("7 days behind are not asked yet", x.owner(0, 1), 1);
        due("7 a well that is not there has no morning", x.owner(1, 0), NONE);
        due("7 in place of no owner", x.owner(2, 0), 4);
        due("7 the drought's clan is right", x.may(0, 2), 1);
        due("7 the other is not", x.may(0, 0), 0);
        x.well(1, 10, 0, 0);
        due("7 not asked at well()", x.owner(1, 0), NONE);
        x.days(1);
        due("7 first rule holds", x.owner(0, 1), 2);
        due("7 now it is asked", x.owner(1, 1), 5);
        due("7 below 11", x.owner(2, 1), 4);
        x.days(1);
        due("7 below is not at", x.owner(0, 2), 3);
        due("7 on that day alone", x.owner(2, 2), NONE);
        x.days(2);
        due("7 none holds", x.owner(0, 4), 0);
        due("7 past days stay", x.owner(0, 1), 2);
        due("7 take", x.take(0, 5, 40), 0);
        due("7 by the morning, not by the level", x.may(0, 0), 1);
        x.read("turns 0: a 1; drought 0 below 40 f;");
        due("7 morning at reading", x.owner(0, 4), 0);
        x.read("turns 0: a 1; drought 0 below 41 f;");
        due("7 morning at reading", x.owner(0, 4), 5);
        due("7 past days stay", x.owner(0, 2), 3);
    }

    private static void promise8() {
        Court x = new Court();
        x.well(3, 70, 8, 9);
        due("8 level", x.water(3, 0), 9);
        due("8 morning", x.water(3, 1), 9);
        due("8 cap", x.water(3, 2), 70);
        due("8 rate", x.water(3, 3), 8);
        due("8 what 4", x.water(3, 4), NONE);
        due("8 what -1", x.water(3, -1), NONE);
        due("8 what high", x.water(3, HIGH), NONE);
        due("8 no well", x.water(2, 0), NONE);
        due("8 w 6", x.water(6, 0), NONE);
        due("8 w -1", x.water(-1, 0), NONE);
        due("8 w low", x.water(LOW, 0), NONE);
    }

    private static void promise9() {
        Court x = Court.with("turns 4: f 1;");
        due("9 first", x.owner(4, 0), 5);
        due("9 last", x.owner(4, 199), 5);
        due("9 day 200", x.owner(4, 200), NONE);
        due("9 day -1", x.owner(4, -1), NONE);
        due("9 none", x.owner(3, 0), NONE);
        due("9 w 6", x.owner(6, 0), NONE);
        due("9 w -1", x.owner(-1, 0), NONE);
        due("9 high", x.owner(HIGH, HIGH), NONE);
        due("9 low", x.owner(LOW, LOW), NONE);
    }

    private static void promise10() {
        Court x = Court.with("turns 0: a 1, b 1; turns 1: c 1;");
        x.well(0, 10, 1, 5);
        due("10 owner", x.may(0, 0), 1);
        due("10 not its day", x.may(0, 1), 0);
        due("10 no such well", x.may(1, 2), NONE);
        due("10 w 6", x.may(6, 0), NONE);
        due("10 w -1", x.may(-1, 0), NONE);
        due("10 clan 6", x.may(0, 6), NONE);
        due("10 clan -1", x.may(0, -1), NONE);
        due("10 clan low", x.may(0, LOW), NONE);
        x.days(1);
        due("10 next day", x.may(0, 0), 0);
        due("10 next day", x.may(0, 1), 1);
        x.well(2, 10, 1, 5);
        due("10 a well without owner", x.may(2, 0), 0);
    }

    private static void promise10Kin() {
        Court x = Court.with("turns 0: a 1, b 1; wed b c; wed c d; wed a e; guest e at 0 of a 5; guest c at 1 of a 5; wed e f;");
        x.well(0, 10, 1, 5);
        x.well(1, 10, 1, 5);
        due("10 wed", x.may(0, 4), 1);
        due("10 kin of kin", x.may(0, 5), 0);
        due("10 kin of another", x.may(0, 2), 0);
        due("10 no owner has no kin", x.may(1, 2), 0);
        due("10 nor guests", x.may(1, 2), 0);
        x.days(1);
        due("10 wed, the other way", x.may(0, 2), 1);
        due("10 kin of kin", x.may(0, 3), 0);
    }

    private static void promise10Dry() {
        Court x = Court.with("turns 0: a 1; turns 1: b 1; turns 2: c 1; turns 3: d 1; dry 1 to 0; dry 2 to 0; dry 3 to 0; wed b e;"
                + "drought 2 below 1 f;");
        x.well(0, 100, 1, 5);
        x.well(1, 100, 0, 2);
        x.well(2, 100, 5, 0);
        due("10 a morning above 0", x.may(0, 1), 0);
        due("10 the well came behind the reading", x.may(0, 2), 1);
        due("10 a well that is not there is not dry", x.may(0, 3), 0);
        due("10 only that way", x.may(2, 0), 0);
        due("10 take", x.take(1, 0, 2), 0);
        due("10 the morning, not the level", x.may(0, 1), 0);
        x.well(3, 10, 0, 0);
        due("10 now it is there", x.may(0, 3), 1);
        x.days(1);
        due("10 dry", x.may(0, 1), 1);
        due("10 its kin is not", x.may(0, 4), 0);
        due("10 dry no more", x.may(0, 2), 0);
        due("10 own right stays", x.may(0, 0), 1);
        x.take(2, 0, 5);
        x.take(2, 0, 1);
        due("10 level 0", x.water(2, 0), 0);
        Court y = new Court();
        y.well(0, 100, 1, 5);
        y.well(2, 100, 0, 0);
        y.read("turns 0: a 1; turns 2: c 1; dry 2 to 0; drought 2 below 1 f;");
        due("10 the drought's clan owns the dry well", y.may(0, 5), 1);
        due("10 the other does not", y.may(0, 2), 0);
    }

    private static void promise10Guest() {
        Court x = Court.with("turns 0: a 1, b 1; guest c at 0 of a 0; guest d at 1 of a 9; guest e at 0 of b 9; wed a f; guest f at 0 of a 1;");
        x.well(0, 10, 1, 5);
        due("10 guest of 0", x.may(0, 2), 2);
        due("10 of another well", x.may(0, 3), 0);
        due("10 of another clan", x.may(0, 4), 0);
        due("10 right goes first", x.may(0, 5), 1);
        due("10 not the other way", x.may(0, 0), 1);
        x.days(1);
        due("10 another day", x.may(0, 2), 0);
        due("10 another day", x.may(0, 4), 2);
    }

    private static void promise11() {
        Court x = Court.with("turns 0: a 2, b 1, c 1;");
        due("11 lend", x.lend(0, 2, 0), 4);
        due("11 lent", x.owner(0, 2), 0);
        due("11 given back", x.owner(0, 4), 1);
        due("11 not before it", x.owner(0, 1), 0);
        due("11 own day", x.lend(0, 1, 0), NONE);
        due("11 DAY itself", x.lend(0, 0, 1), NONE);
        due("11 a day ahead", x.lend(0, -1, 1), NONE);
        due("11 no day of that clan", x.lend(0, 1, 3), NONE);
        due("11 day 200", x.lend(0, 200, 1), NONE);
        due("11 day high", x.lend(0, HIGH, 1), NONE);
        due("11 day low", x.lend(0, LOW, 1), NONE);
        due("11 w 6", x.lend(6, 1, 1), NONE);
        due("11 w -1", x.lend(-1, 1, 1), NONE);
        due("11 clan 6", x.lend(0, 1, 6), NONE);
        due("11 clan -1", x.lend(0, 1, -1), NONE);
        due("11 no owner", x.lend(1, 1, 1), NONE);
        due("11 nothing changed", x.owner(0, 1), 0);
        due("11 the last", x.lend(0, 198, 2), 199);
        due("11 none behind it", x.lend(0, 199, 0), NONE);
        due("11 none behind it", x.owner(0, 199), 1);
        due("11 the next but one", x.lend(0, 197, 2), 198);
        due("11 of lent days, too", x.owner(0, 198), 0);
        x.days(5);
        due("11 DAY", x.lend(0, 5, 1), NONE);
        due("11 behind DAY", x.lend(0, 6, 0), 8);
        x.well(0, 100, 0, 100);
        x.days(1);
        due("11 it is right then", x.may(0, 0), 1);
        due("11 the lender is not", x.may(0, 1), 0);
    }

    private static void promise12() {
        Court x = Court.with("turns 0: a 1, b 1; turns 2: a 1;");
        x.well(0, 1000, 1, 1000);
        due("12 w 6", x.draw(6, 0, 1), 1);
        due("12 w -1", x.draw(-1, 0, 1), 1);
        due("12 no such well", x.draw(2, 0, 1), 1);
        due("12 clan 6", x.draw(0, 6, 1), 1);
        due("12 clan -1", x.draw(0, -1, 1), 1);
        due("12 amount 0", x.draw(0, 0, 0), 1);
        due("12 amount low", x.draw(0, 0, LOW), 1);
        due("12 amount 1001", x.draw(0, 0, 1001), 1);
        due("12 not right", x.draw(0, 1, 1), 2);
        due("12 not right goes first", x.draw(0, 1, 1000), 2);
        due("12 draws", x.count(4), 0);
        due("12 least", x.draw(0, 0, 1), 0);
        due("12 level", x.water(0, 0), 999);
        due("12 beyond level", x.draw(0, 0, 1000), 4);
        due("12 all of it", x.draw(0, 0, 999), 0);
        due("12 level", x.water(0, 0), 0);
        due("12 morning", x.water(0, 1), 1000);
        due("12 empty", x.draw(0, 0, 1), 4);
        due("12 draws", x.count(4), 2);
        due("12 right", x.drawn(0, 4), 1);
        due("12 known on its DAY", x.drawn(0, 5), 0);
        x.days(1);
        due("12 the next day's", x.draw(0, 1, 1), 0);
        due("12 its day", x.drawn(2, 0), 1);
        due("12 known", x.drawn(2, 5), 1);
    }

    private static void promise12Guest() {
        Court x = Court.with("turns 0: a 1; turns 1: a 1; guest b at 0 of a 10; guest b at 0 of a 50; guest b at 1 of a 7; guest c at 0 of a 0;");
        x.well(0, 100, 0, 12);
        x.well(1, 100, 0, 100);
        due("12 guest of none", x.draw(0, 2, 1), 3);
        due("12 first rule", x.draw(0, 1, 11), 3);
        due("12 guest", x.draw(0, 1, 6), 0);
        due("12 at another well", x.draw(1, 1, 7), 0);
        due("12 takes do not count", x.take(0, 1, 1), 0);
        due("12 in all", x.draw(0, 1, 5), 3);
        due("12 beyond many goes first", x.draw(0, 1, 1000), 3);
        due("12 a guest's is right", x.drawn(0, 4), 1);
        due("12 known", x.drawn(0, 5), 0);
        due("12 owner", x.draw(0, 0, 2), 0);
        due("12 then the level", x.draw(0, 1, 4), 4);
        due("12 up to many", x.draw(0, 1, 3), 0);
        x.days(1);
        due("12 anew on the next day", x.draw(0, 1, 10), 4);
        x.read("turns 1: b 1;");
        due("12 as owner", x.draw(1, 1, 8), 0);
        x.read("turns 1: a 1; guest b at 1 of a 10;");
        due("12 drawn as owner counts", x.draw(1, 1, 3), 3);
        due("12 drawn as owner counts", x.draw(1, 1, 2), 0);
    }

    private static void promise12Most() {
        Court x = Court.with("turns 0: a 1;");
        x.well(0, 1000, 0, 1000);
        for (int k = 0; k < 150; k++) {
            due("12 draw", x.draw(0, 0, 1), 0);
            due("12 take", x.take(0, 1, 1), 0);
        }
        due("12 300 draws", x.count(4), 300);
        due("12 one more", x.draw(0, 0, 1), 1);
        due("13 one more", x.take(0, 1, 1), 1);
        due("13 one more goes first", x.take(0, 0, 1), 1);
        due("12 level", x.water(0, 0), 700);
        due("15 the last one", x.drawn(299, 2), 1);
        due("15 no more", x.drawn(300, 2), Face.THROWS);
        due("14 the last one", x.report(299), true);
        due("16 all", x.judge(1, 0, 0, 0, 0), 150);
        due("16 known", x.judge(1, 0, 0, 0, 2), 1);
        due("16 fine", x.judge(1, 0, 0, 0, 3), 2);
        due("16 fine", x.judge(0, 0, 0, 0, 3), 0);
    }

    private static void promise13() {
        Court x = Court.with("turns 0: a 1; guest c at 0 of a 5; wed a d;");
        x.well(0, 1000, 0, 20);
        due("13 w 6", x.take(6, 1, 1), 1);
        due("13 w -1", x.take(-1, 1, 1), 1);
        due("13 no such well", x.take(1, 1, 1), 1);
        due("13 clan 6", x.take(0, 6, 1), 1);
        due("13 clan -1", x.take(0, -1, 1), 1);
        due("13 amount 0", x.take(0, 1, 0), 1);
        due("13 amount 1001", x.take(0, 1, 1001), 1);
        due("13 of the owner, too", x.take(0, 0, 1001), 1);
        due("13 right", x.take(0, 0, 1), 5);
        due("13 right goes ahead of the level", x.take(0, 0, 21), 5);
        due("13 kin is right", x.take(0, 3, 1), 5);
        due("13 beyond level", x.take(0, 1, 21), 4);
        due("13 draws", x.count(4), 0);
        due("13 take", x.take(0, 1, 14), 0);
        due("13 a guest, too", x.take(0, 2, 6), 0);
        due("13 level", x.water(0, 0), 0);
        due("13 not right", x.drawn(0, 4), 0);
        due("13 not known", x.drawn(0, 5), NONE);
        due("13 a guest's is not right", x.drawn(1, 4), 0);
        due("13 nor known", x.drawn(1, 5), NONE);
    }

    private static void promise14() {
        Court x = Court.with("turns 0: a 1;");
        x.well(0, 1000, 0, 20);
        due("14 none yet", x.report(0), false);
        x.draw(0, 0, 1);
        x.take(0, 1, 1);
        x.take(0, 2, 1);
        due("14 known", x.report(0), false);
        due("14 none such", x.report(3), false);
        due("14 -1", x.report(-1), false);
        due("14 high", x.report(HIGH), false);
        x.days(4);
        due("14 report", x.report(1), true);
        due("14 from DAY on", x.drawn(1, 5), 4);
        due("14 it stays not right", x.drawn(1, 4), 0);
        due("14 again", x.report(1), false);
        x.days(1);
        due("14 again", x.report(1), false);
        due("14 it stays", x.drawn(1, 5), 4);
        due("14 the other", x.drawn(2, 5), NONE);
    }

    private static void promise15() {
        Court x = Court.with("turns 3: b 1;");
        x.well(3, 1000, 0, 20);
        x.days(2);
        x.draw(3, 1, 7);
        x.take(3, 4, 5);
        long[][] want = {{2, 3, 1, 7, 1, 2}, {2, 3, 4, 5, 0, NONE}};
        for (int k = 0; k < 2; k++) {
            for (int what = 0; what < 6; what++) {
                due("15 drawn " + k + " " + what, x.drawn(k, what), want[k][what]);
            }
        }
        due("15 k 2", x.drawn(2, 0), Face.THROWS);
        due("15 k -1", x.drawn(-1, 0), Face.THROWS);
        due("15 k low", x.drawn(LOW, 0), Face.THROWS);
        due("15 k high", x.drawn(HIGH, 0), Face.THROWS);
        due("15 what 6", x.drawn(0, 6), Face.THROWS);
        due("15 what -1", x.drawn(0, -1), Face.THROWS);
        due("15 what high", x.drawn(0, HIGH), Face.THROWS);
        due("15 nothing changed", x.count(4), 2);
        due("15 nothing changed", x.drawn(0, 3), 7);
    }

    private static void promise16() {
        Court x = Court.with("turns 0: a 1, b 1;");
        x.well(0, 1000, 0, 1000);
        x.draw(0, 0, 10);
        x.days(1);
        x.take(0, 0, 20);
        x.take(0, 0, 3);
        x.days(1);
        x.draw(0, 0, 1);
        due("16 all", x.judge(0, 0, 2, 0, 0), 34);
        due("16 from", x.judge(0, 1, 2, 0, 0), 24);
        due("16 to", x.judge(0, 0, 1, 0, 0), 33);
        due("16 none between", x.judge(0, 2, 0, 0, 0), 0);
        due("16 wide", x.judge(0, LOW, HIGH, LOW, 0), 34);
        due("16 not right", x.judge(0, 0, 2, 0, 1), 23);
        due("16 known", x.judge(0, 0, 2, HIGH, 2), 0);
        due("16 fine not below 0", x.judge(0, 0, 2, HIGH, 3), 0);
        x.days(1);
        x.report(1);
        x.days(1);
        x.report(2);
        due("16 not known yet", x.judge(0, 0, 9, 2, 2), 0);
        due("16 known on DAY 3", x.judge(0, 0, 9, 3, 2), 20);
        due("16 known on DAY 4", x.judge(0, 0, 9, 4, 2), 23);
        due("16 known later", x.judge(0, 0, 9, HIGH, 2), 23);
        due("16 not known on -1", x.judge(0, 0, 9, -1, 2), 0);
        due("16 out of days", x.judge(0, 2, 9, 4, 2), 0);
        due("16 fine", x.judge(0, 0, 9, 3, 3), 29);
        due("16 fine", x.judge(0, 0, 9, 4, 3), 35);
        due("16 fine", x.judge(0, 1, 9, 4, 3), 45);
        due("16 fine", x.judge(0, 1, 1, 4, 3), 46);
        due("16 rightful draws known later do not lessen", x.judge(0, 0, 9, 1, 3), 0);
        due("16 another clan", x.judge(1, 0, 9, 4, 0), 0);
        due("16 clan 6", x.judge(6, 0, 9, 4, 0), NONE);
        due("16 clan -1", x.judge(-1, 0, 9, 4, 0), NONE);
        due("16 what 4", x.judge(0, 0, 9, 4, 4), NONE);
        due("16 what -1", x.judge(0, 0, 9, 4, -1), NONE);
        x.days(2);
        x.draw(0, 0, 100);
        due("16 drawn by day 6", x.judge(0, 0, 9, 5, 3), 35);
        due("16 drawn by day 6", x.judge(0, 0, 9, 6, 3), 0);
    }

    private static void promise17() {
        Court x = Court.with("turns 0: a 1;");
        x.well(0, 1000, 0, 1000);
        due("17 h 4", x.herd(4, 0, 1, 1, 0), false);
        due("17 h -1", x.herd(-1, 0, 1, 1, 0), false);
        due("17 clan 6", x.herd(0, 6, 1, 1, 0), false);
        due("17 clan -1", x.herd(0, -1, 1, 1, 0), false);
        due("17 draw 0", x.herd(0, 0, 0, 1, 0), false);
        due("17 draw 101", x.herd(0, 0, 101, 1, 0), false);
        due("17 last 0", x.herd(0, 0, 1, 0, 0), false);
        due("17 last 10", x.herd(0, 0, 1, 10, 0), false);
        due("17 no such well", x.herd(0, 0, 1, 1, 1), false);
        due("17 w 6", x.herd(0, 0, 1, 1, 6), false);
        due("17 w -1", x.herd(0, 0, 1, 1, -1), false);
        due("17 herds", x.count(3), 0);
        due("17 least", x.herd(0, 0, 1, 1, 0), true);
        due("17 most", x.herd(3, 5, 100, 9, 0), true);
        due("17 herds", x.count(3), 2);
        due("17 anew", x.herd(0, 1, 1, 3, 0), true);
        due("17 herds", x.count(3), 2);
        due("17 drop", x.drop(3), true);
        due("17 it drank on DAY and lasts 3", x.plan(3, 50000), 0);
        due("17 not 4", x.plan(4, 50000), 1);
        x.days(1);
        due("17 one day later", x.plan(2, 50000), 0);
        due("17 one day later", x.plan(3, 50000), 1);
        due("17 wrong, so not anew", x.herd(0, 1, 1, 30, 0), false);
        due("17 still so", x.plan(3, 50000), 1);
        due("17 anew", x.herd(0, 1, 1, 3, 0), true);
        due("17 it drank on DAY", x.plan(3, 50000), 0);
    }

    private static void promise18() {
        Court x = Court.with("turns 0: a 1;");
        x.well(0, 1000, 0, 1000);
        due("18 none", x.drop(0), false);
        x.herd(0, 0, 1, 1, 0);
        x.herd(2, 1, 1, 1, 0);
        due("18 -1", x.drop(-1), false);
        due("18 4", x.drop(4), false);
        due("18 1", x.drop(1), false);
        due("18 herd 2 thirsts", x.plan(2, 100), 1);
        due("18 2", x.drop(2), true);
        due("18 again", x.drop(2), false);
        due("18 herds", x.count(3), 1);
        due("18 none thirsts", x.plan(2, 100), 0);
        due("18 0", x.drop(0), true);
        due("18 no herd", x.plan(2, 100), NONE);
    }

    private static void promise19() {
        Court x = Court.with("turns 1: a 1;");
        x.well(0, 10, 0, 10);
        x.well(1, 10, 0, 10);
        due("19 the same", x.way(2, 2, 1), false);
        due("19 u 6", x.way(6, 0, 1), false);
        due("19 u -1", x.way(-1, 0, 1), false);
        due("19 v 6", x.way(0, 6, 1), false);
        due("19 v -1", x.way(0, -1, 1), false);
        due("19 days -1", x.way(0, 1, -1), false);
        due("19 days 10", x.way(0, 1, 10), false);
        due("19 none there", x.way(4, 5, 9), true);
        due("19 none", x.way(4, 3, 0), true);
        x.herd(0, 0, 1, 1, 0);
        due("19 no way", x.plan(2, 100), 1);
        due("19 the other way", x.way(1, 0, 1), true);
        due("19 each way by itself", x.plan(2, 100), 1);
        due("19 too long", x.way(0, 1, 2), true);
        due("19 too long", x.plan(2, 100), 1);
        due("19 1 day", x.way(0, 1, 1), true);
        x.herd(0, 0, 1, 2, 0);
        due("19 there is a way", x.plan(3, 100), 0);
        due("19 wrong", x.way(0, 1, 10), false);
        due("19 it stays", x.plan(3, 100), 0);
        due("19 none", x.way(0, 1, 0), true);
        due("19 there is none", x.plan(3, 100), 1);
    }

    private static void promise23() {
        Court x = Court.with("turns 0: a 1; wed a b;");
        x.well(0, 10, 0, 10);
        x.well(4, 10, 0, 10);
        x.well(5, 10, 0, 10);
        x.days(6);
        for (int h = 0; h < 4; h++) {
            x.herd(h, 0, 1, 3, 0);
        }
        for (int k = 0; k < 5; k++) {
            x.take(0, 2, 1);
        }
        x.plan(1, 100);
        x.feed(1, 2, 3, 4, 5);
        int[] want = {6, 3, 2, 4, 5, 20, 4};
        for (int what = 0; what < want.length; what++) {
            due("23 count " + what, x.count(what), want[what]);
        }
        due("23 what 7", x.count(7), NONE);
        due("23 what -1", x.count(-1), NONE);
        due("23 what high", x.count(HIGH), NONE);
        due("23 what low", x.count(LOW), NONE);
    }
}
