/**
 * All that calls can show of an object, in parts of at most 200 calls each, so that an object with a
 * long past can still be asked for one of them. Some parts change what they look at: each wants an
 * object of its own.
 */
final class Seen {
    static final int PARTS = 22;
    private static final int PLAN_LOOKS = 3000;

    private final Face x;
    private final StringBuilder all = new StringBuilder();

    private Seen(Face x) {
        this.x = x;
    }

    static String part(Face x, int part) {
        Seen seen = new Seen(x);
        if (part < 12) {
            seen.owners(part / 2, part % 2 * 100);
        } else {
            switch (part) {
                case 12 -> seen.numbers();
                case 13 -> seen.draws();
                case 14 -> seen.steps();
                case 15 -> seen.judgements();
                case 16 -> seen.tape();
                case 17 -> seen.plans();
                case 18 -> seen.nextDays();
                case 19 -> seen.moreDraws();
                case 20 -> seen.loans();
                default -> seen.reports();
            }
        }
        return seen.all.toString();
    }

    private void see(long answer) {
        all.append(answer == Face.THROWS ? "throws" : Long.toString(answer)).append(' ');
    }

    private void see(boolean answer) {
        all.append(answer).append(' ');
    }

    private void owners(int w, int from) {
        for (int day = from; day < from + 100; day++) {
            see(x.owner(w, day));
        }
    }

    private void numbers() {
        for (int what = 0; what < 7; what++) {
            see(x.count(what));
        }
        see(x.fault());
        see(x.far());
        standing();
    }

    private void standing() {
        for (int w = 0; w < 6; w++) {
            for (int what = 0; what < 4; what++) {
                see(x.water(w, what));
            }
            for (int clan = 0; clan < 6; clan++) {
                see(x.may(w, clan));
            }
        }
    }

    private void draws() {
        int last = Math.min(x.count(4), 30);
        for (int k = 0; k <= last; k++) {
            for (int what = 0; what < 6; what++) {
                see(x.drawn(k, what));
            }
        }
    }

    private void steps() {
        int day = x.count(0);
        for (int h = 0; h < 4; h++) {
            for (int d = day - 15; d <= day + 15; d++) {
                see(x.step(h, d));
            }
        }
    }

    private void judgements() {
        int day = x.count(0);
        for (int clan = 0; clan < 6; clan++) {
            for (int what = 0; what < 4; what++) {
                see(x.judge(clan, 0, 199, day, what));
                see(x.judge(clan, 0, 199, day - 1, what));
                see(x.judge(clan, day, day, day, what));
            }
        }
    }

    private void tape() {
        see(x.count(5));
        see(x.rights());
        see(x.fault());
        see(x.count(2));
        int day = x.count(0);
        for (int w = 0; w < 6; w++) {
            for (int d = day - 1; d < day + 9; d++) {
                see(x.owner(w, d));
            }
        }
    }

    private void plans() {
        for (int n = 1; n <= 14; n++) {
            see(x.plan(n, PLAN_LOOKS));
            see(x.count(6));
            see(x.far());
        }
        for (int h = 0; h < 4; h++) {
            see(x.drop(h));
            see(x.plan(4, PLAN_LOOKS));
            see(x.count(6));
            see(x.far());
        }
    }

    private void nextDays() {
        for (int i = 0; i < 3; i++) {
            see(x.next());
            standing();
        }
    }

    private void moreDraws() {
        for (int w = 0; w < 6; w++) {
            for (int clan = 0; clan < 6; clan++) {
                see(x.draw(w, clan, 6));
                see(x.draw(w, clan, 1));
                see(x.take(w, clan, 1));
            }
            see(x.water(w, 0));
        }
        see(x.count(4));
    }

    private void loans() {
        int day = x.count(0);
        for (int w = 0; w < 6; w++) {
            for (int clan = 0; clan < 6; clan++) {
                see(x.lend(w, day + 1, clan));
                see(x.lend(w, day + 4, clan));
            }
            for (int d = day; d < day + 8; d++) {
                see(x.owner(w, d));
            }
        }
    }

    private void reports() {
        for (int k = 0; k < 20; k++) {
            see(x.report(k));
            see(x.drawn(k, 5));
        }
        for (int clan = 0; clan < 6; clan++) {
            see(x.judge(clan, 0, 199, 199, 2));
            see(x.judge(clan, 0, 199, 199, 3));
        }
    }
}
