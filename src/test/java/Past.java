/** Pasts that an object may have when it is asked for something that it refuses. */
enum Past {
    /** Something of everything: wells, rights, loans, draws, herds, ways, a plan found, one not found, a fault, a tape. */
    RICH,
    /** As rich, but without a fault so far: what the first one would change is seen. */
    NO_FAULT,
    /** As rich, on the last day. */
    LAST_DAY,
    /** With 300 draws. */
    FULL_LEDGER,
    /** With 800 bytes on the tape. */
    FULL_TAPE,
    /** A new object. */
    NEW;

    private static final String RULES = "turns 0: a 2, b 1; turns 1: c 1, d 2; turns 2: e 3, f 1; turns 3: a 1; turns 4: b 2, e 2;"
            + "wed a e; guest d at 0 of a 15; guest d at 0 of b 9; guest f at 2 of e 40; guest a at 4 of b 7; drought 4 below 12 f;"
            + "drought 1 below 1 c; drought 2 below 600 d; dry 1 to 0; dry 1 to 2;";
    private static final String NEXT_RULES = "turns 0: f 1, a 1; turns 5: b 3; wed c d; drought 0 below 40 e; ";

    void lead(Face x) {
        switch (this) {
            case RICH -> {
                rich(x, 2);
                fault(x);
            }
            case NO_FAULT -> {
                rich(x, 2);
                x.text(NEXT_RULES);
            }
            case LAST_DAY -> {
                rich(x, 194);
                fault(x);
                x.days(4);
            }
            case FULL_LEDGER -> fullLedger(x);
            case FULL_TAPE -> {
                wells(x);
                x.text((NEXT_RULES + "wed a b; ".repeat(100)).substring(0, 800));
            }
            default -> {
            }
        }
    }

    private static void wells(Face x) {
        x.well(0, 100, 7, 60);
        x.well(1, 30, 0, 0);
        x.well(2, 1000, 200, 900);
        x.well(4, 50, 3, 2);
    }

    private static void rich(Face x, int days) {
        wells(x);
        done(x.read(RULES), 15);
        done(x.draw(0, 0, 5), 0);
        done(x.take(2, 1, 33), 0);
        x.days(days);
        done(x.take(0, 3, 4), 0);
        done(x.take(4, 2, 1), 0);
        done(x.report(1) ? 1 : 0, 1);
        x.days(1);
        int day = x.count(0);
        done(x.lend(0, day + 1, 1) > day ? 1 : 0, 1);
        done(x.lend(2, day + 1, 5) > day ? 1 : 0, 1);
        x.herd(0, 0, 9, 2, 0);
        x.herd(1, 4, 20, 3, 2);
        x.herd(3, 1, 2, 4, 4);
        x.way(0, 2, 1);
        x.way(2, 0, 2);
        x.way(4, 0, 1);
        x.way(1, 5, 3);
        done(x.plan(3, 5000), 0);
        done(x.draw(0, 3, 2), 0);
        done(x.take(2, 1, 8), 0);
        x.herd(0, 0, 8, 2, 0);
        done(x.plan(4, 5), 2);
    }

    private static void fault(Face x) {
        done(x.read("turns 0: a 1; wed b b;"), -21);
        x.text(NEXT_RULES);
    }

    private static void done(long got, long want) {
        Check.due("a call of the past", got, want);
    }

    private static void fullLedger(Face x) {
        wells(x);
        x.read("turns 2: a 1; guest b at 2 of a 30;");
        for (int k = 0; k < 300; k++) {
            if (k % 3 == 0) {
                x.draw(2, 0, 2);
            } else {
                x.take(2, k % 3, 1);
            }
        }
    }
}
