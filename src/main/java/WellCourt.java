import java.util.Arrays;
import java.util.NoSuchElementException;

/**
 * Wells of a dry land: whose day it is at which well, draws with and against the law, and a plan
 * by which no herd thirsts. The promises stand in DOC.md; NONE is also the mark of "no clan",
 * "no day" and "no morning" inside.
 */
public final class WellCourt {
    public static final int NONE = -1;

    private static final int WELLS = 6;
    private static final int CLANS = 6;
    private static final int HERDS = 4;
    private static final int LAST_DATE = 199;

    private static final int MOST_CAP = 1000;
    private static final int MOST_RATE = 200;
    private static final int MOST_AMOUNT = 1000;
    private static final int MOST_HERD_DRAW = 100;
    private static final int MOST_HERD_LAST = 9;
    private static final int MOST_WAY_DAYS = 9;

    private static final int MOST_BYTES = 800;
    private static final int FEED_BYTES = 20;
    private static final int MOST_RULES = 20;
    private static final int MOST_SHARES = 8;
    private static final int MOST_SHARE_DAYS = 9;
    private static final int MOST_MANY = 1000;

    private static final int NO_FAULT = 0;
    private static final int FAULT_NO_TOKEN = 1;
    private static final int FAULT_CANNOT_COME = 2;
    private static final int FAULT_NOT_AS_TOLD = 3;
    private static final int FAULT_TOO_MANY = 4;

    private static final int NEITHER = 0;
    private static final int RIGHT = 1;
    private static final int GUEST = 2;

    private static final int DONE = 0;
    private static final int NOT_AS_TOLD = 1;
    private static final int NO_RIGHT = 2;
    private static final int BEYOND_GUEST = 3;
    private static final int BEYOND_LEVEL = 4;
    private static final int IS_RIGHT = 5;

    private static final int MOST_DRAWS = 300;
    private static final int DRAW_FACTS = 6;
    private static final int FACT_DATE = 0;
    private static final int FACT_WELL = 1;
    private static final int FACT_CLAN = 2;
    private static final int FACT_AMOUNT = 3;
    private static final int FACT_RIGHT = 4;
    private static final int FACT_KNOWN = 5;

    private static final int JUDGE_ALL = 0;
    private static final int JUDGE_WRONG = 1;
    private static final int JUDGE_WRONG_KNOWN = 2;
    private static final int JUDGE_FINE = 3;

    private static final int MOST_PLAN_DAYS = 14;
    private static final int MOST_LOOKS = 50000;
    private static final int PLAN_FOUND = 0;
    private static final int PLAN_NONE = 1;
    private static final int PLAN_CUT = 2;

    private final Tape tape = new Tape();
    private final Reader reader = new Reader(tape);
    private final Land land = new Land();
    private final Calendar calendar = new Calendar();
    private final Day today = new Day();
    private final Ledger ledger = new Ledger();
    private final Flock flock = new Flock();
    private Law law = new Law();
    /** The law that is read next: the two change places, so that no call makes a new one. */
    private Law draft = new Law();
    private final Planner planner = new Planner(land, calendar, flock, law);
    private int date = 0;
    private int latestFault = NO_FAULT;

    public WellCourt() {
    }

    public int feed(int a, int b, int c, int d, int e) {
        if (tape.size + FEED_BYTES > MOST_BYTES) {
            return NONE;
        }
        tape.append(a);
        tape.append(b);
        tape.append(c);
        tape.append(d);
        tape.append(e);
        return tape.size;
    }

    public boolean end(int n) {
        if (n < 0 || n > tape.size) {
            return false;
        }
        tape.size = n;
        return true;
    }

    public boolean well(int w, int cap, int rate, int level) {
        if (!isWell(w) || land.isThere(w)) {
            return false;
        }
        if (!isWithin(cap, 1, MOST_CAP) || !isWithin(rate, 0, MOST_RATE) || !isWithin(level, 0, cap)) {
            return false;
        }
        land.cap[w] = cap;
        land.rate[w] = rate;
        today.level[w] = level;
        today.morning[w] = level;
        return true;
    }

    public int rights() {
        draft.clear();
        boolean whole = reader.readText(draft);
        tape.size = 0;
        latestFault = reader.faultKind;
        if (!whole) {
            return -1 - reader.faultPlace;
        }
        Law old = law;
        law = draft;
        draft = old;
        calendar.tellTurns(law, date);
        settleToday();
        return law.rules;
    }

    public int fault() {
        return latestFault;
    }

    public boolean next() {
        if (date >= LAST_DATE) {
            return false;
        }
        date++;
        today.grow(today, land);
        settleToday();
        return true;
    }

    public int water(int w, int what) {
        if (!isWellThere(w)) {
            return NONE;
        }
        switch (what) {
            case 0:
                return today.level[w];
            case 1:
                return today.morning[w];
            case 2:
                return land.cap[w];
            case 3:
                return land.rate[w];
            default:
                return NONE;
        }
    }

    public int owner(int w, int day) {
        return calendar.ownerOn(w, day);
    }

    public int may(int w, int clan) {
        if (!isWellThere(w) || !isClan(clan)) {
            return NONE;
        }
        return standing(w, clan);
    }

    public int lend(int w, int day, int clan) {
        if (!isClan(clan) || day <= date) {
            return NONE;
        }
        return calendar.exchange(w, day, clan);
    }

    public int draw(int w, int clan, int amount) {
        if (!canBeDrawn(w, clan, amount)) {
            return NOT_AS_TOLD;
        }
        int standing = standing(w, clan);
        if (standing == NEITHER) {
            return NO_RIGHT;
        }
        if (standing == GUEST) {
            int before = ledger.rightfulOn(date, w, clan);
            if (before + amount > today.guestMany(law, w, clan)) {
                return BEYOND_GUEST;
            }
        }
        if (amount > today.level[w]) {
            return BEYOND_LEVEL;
        }
        today.level[w] -= amount;
        ledger.enter(date, w, clan, amount, true);
        return DONE;
    }

    public int take(int w, int clan, int amount) {
        if (!canBeDrawn(w, clan, amount)) {
            return NOT_AS_TOLD;
        }
        if (standing(w, clan) == RIGHT) {
            return IS_RIGHT;
        }
        if (amount > today.level[w]) {
            return BEYOND_LEVEL;
        }
        today.level[w] -= amount;
        ledger.enter(date, w, clan, amount, false);
        return DONE;
    }

    public boolean report(int k) {
        if (!ledger.has(k) || ledger.facts[FACT_KNOWN][k] != NONE) {
            return false;
        }
        ledger.facts[FACT_KNOWN][k] = date;
        return true;
    }

    public int drawn(int k, int what) throws NoSuchElementException {
        if (!ledger.has(k)) {
            throw new NoSuchElementException("there is no such draw");
        }
        if (!isWithin(what, 0, DRAW_FACTS - 1)) {
            throw new NoSuchElementException("a draw has no such fact");
        }
        return ledger.facts[what][k];
    }

    public int judge(int clan, int from, int to, int day, int what) {
        if (!isClan(clan)) {
            return NONE;
        }
        switch (what) {
            case JUDGE_ALL:
                return ledger.sum(clan, from, to, true) + ledger.sum(clan, from, to, false);
            case JUDGE_WRONG:
                return ledger.sum(clan, from, to, false);
            case JUDGE_WRONG_KNOWN:
                return ledger.sumKnown(clan, from, to, false, day);
            case JUDGE_FINE:
                return fine(clan, from, to, day);
            default:
                return NONE;
        }
    }

    public boolean herd(int h, int clan, int draw, int last, int w) {
        if (!isHerd(h) || !isClan(clan) || !isWellThere(w)) {
            return false;
        }
        if (!isWithin(draw, 1, MOST_HERD_DRAW) || !isWithin(last, 1, MOST_HERD_LAST)) {
            return false;
        }
        flock.put(h, clan, draw, last);
        flock.place[h] = w;
        flock.drank[h] = date;
        return true;
    }

    public boolean drop(int h) {
        if (!isHerd(h) || !flock.isThere(h)) {
            return false;
        }
        flock.clan[h] = NONE;
        return true;
    }

    public boolean way(int u, int v, int days) {
        if (!isWell(u) || !isWell(v) || u == v || !isWithin(days, 0, MOST_WAY_DAYS)) {
            return false;
        }
        land.wayDays[u][v] = days;
        return true;
    }

    public int plan(int n, int looks) throws IllegalArgumentException {
        if (!isWithin(looks, 1, MOST_LOOKS)) {
            throw new IllegalArgumentException("looks are 1 to 50000");
        }
        if (flock.size() == 0 || !isWithin(n, 1, MOST_PLAN_DAYS) || date + n > LAST_DATE) {
            planner.looks = 0;
            return NONE;
        }
        planner.start(law, today, date);
        return planner.search(n, looks);
    }

    public int step(int h, int day) {
        return planner.actOf(h, day);
    }

    public int far() {
        return planner.reach;
    }

    public int count(int what) {
        switch (what) {
            case 0:
                return date;
            case 1:
                return land.size();
            case 2:
                return law.rules;
            case 3:
                return flock.size();
            case 4:
                return ledger.size;
            case 5:
                return tape.size;
            case 6:
                return planner.looks;
            default:
                return NONE;
        }
    }

    private void settleToday() {
        today.settle(law, calendar, date);
        calendar.keep(today, date);
    }

    private boolean isWellThere(int w) {
        return isWell(w) && land.isThere(w);
    }

    private int standing(int w, int clan) {
        if (today.isRight(law, w, clan)) {
            return RIGHT;
        }
        return today.guestMany(law, w, clan) == NONE ? NEITHER : GUEST;
    }

    private boolean canBeDrawn(int w, int clan, int amount) {
        return isWellThere(w) && isClan(clan) && isWithin(amount, 1, MOST_AMOUNT) && ledger.size < MOST_DRAWS;
    }

    private int fine(int clan, int from, int to, int day) {
        int wrong = ledger.sumKnown(clan, from, to, false, day);
        int rightful = ledger.sumKnown(clan, from, to, true, day);
        return Math.max(2 * wrong - rightful, 0);
    }

    private static boolean isWithin(int number, int low, int high) {
        return number >= low && number <= high;
    }

    private static boolean isWell(int w) {
        return w >= 0 && w < WELLS;
    }

    private static boolean isClan(int clan) {
        return clan >= 0 && clan < CLANS;
    }

    private static boolean isHerd(int h) {
        return h >= 0 && h < HERDS;
    }

    private static boolean isDate(int day) {
        return day >= 0 && day <= LAST_DATE;
    }

    /** The bytes that are fed till they are read as a text of rights. */
    private static final class Tape {
        private final byte[] bytes = new byte[MOST_BYTES];
        private int size = 0;

        void append(int number) {
            for (int shift = 24; shift >= 0 && size < MOST_BYTES; shift -= 8) {
                bytes[size] = (byte) (number >> shift);
                size++;
            }
        }

        /** NONE, where there is no byte: a reader needs no other sign of the end. */
        int byteAt(int place) {
            return place < 0 || place >= size ? NONE : bytes[place] & 255;
        }
    }

    /** A text of rights, held by what is asked of it and no more by its order of rules. */
    private static final class Law {
        private int rules = 0;
        /** By well and day of the round: whose turn it is. */
        private final int[][] round = new int[WELLS][MOST_SHARES * MOST_SHARE_DAYS];
        private final int[] roundDays = new int[WELLS];
        /** By clan: one bit for each clan that it is wed to. */
        private final int[] kin = new int[CLANS];
        /** By well: one bit for each well from which a dry rule leads here. */
        private final int[] dryFrom = new int[WELLS];
        private int droughts = 0;
        private final int[] droughtWell = new int[MOST_RULES];
        private final int[] droughtBelow = new int[MOST_RULES];
        private final int[] droughtClan = new int[MOST_RULES];
        private int guests = 0;
        private final int[] guestClan = new int[MOST_RULES];
        private final int[] guestWell = new int[MOST_RULES];
        private final int[] guestHost = new int[MOST_RULES];
        private final int[] guestMany = new int[MOST_RULES];

        void clear() {
            rules = 0;
            droughts = 0;
            guests = 0;
            Arrays.fill(roundDays, 0);
            Arrays.fill(kin, 0);
            Arrays.fill(dryFrom, 0);
        }

        boolean hasTurns(int w) {
            return roundDays[w] > 0;
        }

        void addTurn(int w, int clan, int days) {
            for (int i = 0; i < days && roundDays[w] < round[w].length; i++) {
                round[w][roundDays[w]] = clan;
                roundDays[w]++;
            }
        }

        void addWed(int one, int other) {
            kin[one] |= 1 << other;
            kin[other] |= 1 << one;
        }

        void addDry(int from, int to) {
            dryFrom[to] |= 1 << from;
        }

        void addDrought(int w, int below, int clan) {
            if (droughts < MOST_RULES) {
                droughtWell[droughts] = w;
                droughtBelow[droughts] = below;
                droughtClan[droughts] = clan;
                droughts++;
            }
        }

        void addGuest(int clan, int w, int host, int many) {
            if (guests < MOST_RULES) {
                guestClan[guests] = clan;
                guestWell[guests] = w;
                guestHost[guests] = host;
                guestMany[guests] = many;
                guests++;
            }
        }

        int turnOn(int w, int day) {
            int days = roundDays[w];
            return days > 0 ? round[w][day % days] : NONE;
        }

        boolean areWed(int one, int other) {
            return isClan(one) && isClan(other) && (kin[one] >> other & 1) == 1;
        }

        boolean leadsDry(int from, int to) {
            return (dryFrom[to] >> from & 1) == 1;
        }

        /** A well that is not there has no morning, so no drought holds at it. */
        int droughtOwner(int w, int morning) {
            for (int i = 0; i < droughts && morning != NONE; i++) {
                if (droughtWell[i] == w && morning < droughtBelow[i]) {
                    return droughtClan[i];
                }
            }
            return NONE;
        }

        int manyOfGuest(int clan, int w, int host) {
            for (int i = 0; i < guests; i++) {
                if (guestClan[i] == clan && guestWell[i] == w && guestHost[i] == host) {
                    return guestMany[i];
                }
            }
            return NONE;
        }
    }

    /** Reads the tape token by token into a law, up to the first fault. */
    private static final class Reader {
        private static final int AT_END = 0;
        private static final int NO_TOKEN = 1;
        private static final int WORD = 2;
        private static final int NUMBER = 3;
        private static final int SIGN = 4;
        private static final int MOST_DIGITS = 4;

        private final Tape tape;
        private int kind = AT_END;
        private int start = 0;
        /** Of the first byte behind the token. */
        private int stop = 0;
        private int faultKind = NO_FAULT;
        private int faultPlace = 0;

        Reader(Tape tape) {
            this.tape = tape;
        }

        boolean readText(Law into) {
            stop = 0;
            faultKind = NO_FAULT;
            faultPlace = 0;
            for (int rule = 0; rule <= MOST_RULES; rule++) {
                advance();
                if (kind == AT_END) {
                    into.rules = rule;
                    return true;
                }
                if (!isRuleWord()) {
                    return cannotCome();
                }
                if (rule == MOST_RULES) {
                    return fail(FAULT_TOO_MANY);
                }
                boolean whole = isWord("turns") ? readTurns(into)
                        : isWord("guest") ? readGuest(into)
                        : isWord("wed") ? readWed(into)
                        : isWord("drought") ? readDrought(into)
                        : readDry(into);
                if (!whole) {
                    return false;
                }
            }
            return false;
        }

        private boolean isRuleWord() {
            return isWord("turns") || isWord("guest") || isWord("wed") || isWord("drought") || isWord("dry");
        }

        private boolean readTurns(Law into) {
            int w = readNumber(0, WELLS - 1);
            if (w == NONE) {
                return false;
            }
            if (into.hasTurns(w)) {
                return fail(FAULT_NOT_AS_TOLD);
            }
            if (!readSign(':')) {
                return false;
            }
            for (int share = 0; share <= MOST_SHARES; share++) {
                int clan = readClan(NONE);
                if (clan == NONE) {
                    return false;
                }
                if (share == MOST_SHARES) {
                    return fail(FAULT_TOO_MANY);
                }
                int days = readNumber(1, MOST_SHARE_DAYS);
                if (days == NONE) {
                    return false;
                }
                into.addTurn(w, clan, days);
                advance();
                if (isSign(';')) {
                    return true;
                }
                if (!isSign(',')) {
                    return cannotCome();
                }
            }
            return false;
        }

        private boolean readGuest(Law into) {
            int clan = readClan(NONE);
            if (clan == NONE || !readWord("at")) {
                return false;
            }
            int w = readNumber(0, WELLS - 1);
            if (w == NONE || !readWord("of")) {
                return false;
            }
            int host = readClan(clan);
            if (host == NONE) {
                return false;
            }
            int many = readNumber(0, MOST_MANY);
            if (many == NONE || !readSign(';')) {
                return false;
            }
            into.addGuest(clan, w, host, many);
            return true;
        }

        private boolean readWed(Law into) {
            int one = readClan(NONE);
            if (one == NONE) {
                return false;
            }
            int other = readClan(one);
            if (other == NONE || !readSign(';')) {
                return false;
            }
            into.addWed(one, other);
            return true;
        }

        private boolean readDrought(Law into) {
            int w = readNumber(0, WELLS - 1);
            if (w == NONE || !readWord("below")) {
                return false;
            }
            int below = readNumber(0, MOST_MANY);
            if (below == NONE) {
                return false;
            }
            int clan = readClan(NONE);
            if (clan == NONE || !readSign(';')) {
                return false;
            }
            into.addDrought(w, below, clan);
            return true;
        }

        private boolean readDry(Law into) {
            int from = readNumber(0, WELLS - 1);
            if (from == NONE || !readWord("to")) {
                return false;
            }
            int to = readNumber(0, WELLS - 1);
            if (to == NONE) {
                return false;
            }
            if (to == from) {
                return fail(FAULT_NOT_AS_TOLD);
            }
            if (!readSign(';')) {
                return false;
            }
            into.addDry(from, to);
            return true;
        }

        private boolean readSign(char sign) {
            advance();
            return isSign(sign) || cannotCome();
        }

        private boolean readWord(String word) {
            advance();
            return isWord(word) || cannotCome();
        }

        /** NONE, if a fault is told instead. The barred clan is one that has come in the rule already. */
        private int readClan(int barred) {
            advance();
            int clan = kind == WORD && stop - start == 1 ? tape.byteAt(start) - 'a' : NONE;
            if (!isClan(clan)) {
                cannotCome();
                return NONE;
            }
            if (clan == barred) {
                fail(FAULT_NOT_AS_TOLD);
                return NONE;
            }
            return clan;
        }

        /** NONE, if a fault is told instead. */
        private int readNumber(int low, int high) {
            advance();
            if (kind != NUMBER) {
                cannotCome();
                return NONE;
            }
            int number = 0;
            for (int at = start; at < stop; at++) {
                number = number * 10 + tape.byteAt(at) - '0';
            }
            if (!isWithin(number, low, high)) {
                fail(FAULT_NOT_AS_TOLD);
                return NONE;
            }
            return number;
        }

        private boolean cannotCome() {
            return fail(kind == NO_TOKEN ? FAULT_NO_TOKEN : FAULT_CANNOT_COME);
        }

        private boolean fail(int fault) {
            faultKind = fault;
            faultPlace = start;
            return false;
        }

        private boolean isSign(char sign) {
            return kind == SIGN && tape.byteAt(start) == sign;
        }

        private boolean isWord(String word) {
            if (kind != WORD || stop - start != word.length()) {
                return false;
            }
            for (int i = 0; i < word.length(); i++) {
                if (tape.byteAt(start + i) != word.charAt(i)) {
                    return false;
                }
            }
            return true;
        }

        private void advance() {
            start = stop;
            while (start < MOST_BYTES && isBlank(tape.byteAt(start))) {
                start++;
            }
            int first = tape.byteAt(start);
            stop = start + 1;
            if (first == NONE) {
                kind = AT_END;
                stop = start;
            } else if (first == ':' || first == ',' || first == ';') {
                kind = SIGN;
            } else if (isDigit(first) || isLetter(first)) {
                readRun();
            } else {
                kind = NO_TOKEN;
            }
        }

        /** Letters and digits that stand together are one thing, a word, a number or no token. */
        private void readRun() {
            int digits = 0;
            int smalls = 0;
            stop = start;
            while (stop < MOST_BYTES) {
                int at = tape.byteAt(stop);
                if (!isDigit(at) && !isLetter(at)) {
                    break;
                }
                digits += isDigit(at) ? 1 : 0;
                smalls += isSmall(at) ? 1 : 0;
                stop++;
            }
            int size = stop - start;
            if (smalls == size) {
                kind = WORD;
            } else {
                kind = digits == size && size <= MOST_DIGITS ? NUMBER : NO_TOKEN;
            }
        }

        private static boolean isBlank(int sign) {
            return sign == 32 || sign == 10;
        }

        private static boolean isDigit(int sign) {
            return sign >= '0' && sign <= '9';
        }

        private static boolean isSmall(int sign) {
            return sign >= 'a' && sign <= 'z';
        }

        private static boolean isLetter(int sign) {
            return sign >= 'a' && sign <= 'z' || sign >= 'A' && sign <= 'Z';
        }
    }

    /** What does not change from day to day by itself: the wells and the ways between them. */
    private static final class Land {
        /** 0, where there is no well: no well has such a cap. */
        private final int[] cap = new int[WELLS];
        private final int[] rate = new int[WELLS];
        /** From well to well; 0 is no way. */
        private final int[][] wayDays = new int[WELLS][WELLS];

        boolean isThere(int w) {
            return cap[w] > 0;
        }

        int size() {
            int there = 0;
            for (int w = 0; w < WELLS; w++) {
                there += isThere(w) ? 1 : 0;
            }
            return there;
        }
    }

    /** Owners by well and date: as they were up to today, as turns and loans have it behind that. */
    private static final class Calendar {
        private final int[][] owners = new int[WELLS][LAST_DATE + 1];

        Calendar() {
            for (int w = 0; w < WELLS; w++) {
                Arrays.fill(owners[w], NONE);
            }
        }

        int ownerOn(int w, int day) {
            return isWell(w) && isDate(day) ? owners[w][day] : NONE;
        }

        void tellTurns(Law law, int from) {
            for (int w = 0; w < WELLS; w++) {
                for (int day = Math.max(from, 0); day <= LAST_DATE; day++) {
                    owners[w][day] = law.turnOn(w, day);
                }
            }
        }

        void keep(Day day, int date) {
            for (int w = 0; w < WELLS && isDate(date); w++) {
                owners[w][date] = day.owner[w];
            }
        }

        /** The day that is given back, or NONE. */
        int exchange(int w, int day, int clan) {
            int lender = ownerOn(w, day);
            if (lender == NONE || lender == clan) {
                return NONE;
            }
            for (int back = day + 1; back <= LAST_DATE; back++) {
                if (owners[w][back] == clan) {
                    owners[w][day] = clan;
                    owners[w][back] = lender;
                    return back;
                }
            }
            return NONE;
        }
    }

    /** Water and owners of one day, the real one or one of a plan. */
    private static final class Day {
        private final int[] level = new int[WELLS];
        /** NONE, where there is no well. */
        private final int[] morning = new int[WELLS];
        private final int[] owner = new int[WELLS];

        Day() {
            Arrays.fill(morning, NONE);
            Arrays.fill(owner, NONE);
        }

        void copyLevels(Day other) {
            System.arraycopy(other.level, 0, level, 0, WELLS);
        }

        void grow(Day before, Land land) {
            for (int w = 0; w < WELLS; w++) {
                if (land.isThere(w)) {
                    level[w] = Math.min(before.level[w] + land.rate[w], land.cap[w]);
                    morning[w] = level[w];
                }
            }
        }

        void settle(Law law, Calendar calendar, int date) {
            for (int w = 0; w < WELLS; w++) {
                int instead = law.droughtOwner(w, morning[w]);
                owner[w] = instead == NONE ? calendar.ownerOn(w, date) : instead;
            }
        }

        boolean isRight(Law law, int w, int clan) {
            if (owner[w] == clan || law.areWed(owner[w], clan)) {
                return true;
            }
            for (int other = 0; other < WELLS; other++) {
                if (owner[other] == clan && morning[other] == 0 && law.leadsDry(other, w)) {
                    return true;
                }
            }
            return false;
        }

        /** How much a clan may draw as a guest on the day; NONE, if no rule makes it one. */
        int guestMany(Law law, int w, int clan) {
            return law.manyOfGuest(clan, w, owner[w]);
        }
    }

    /** All draws, one behind another. */
    private static final class Ledger {
        /** By fact, in the order in which they are asked for, and by draw. */
        private final int[][] facts = new int[DRAW_FACTS][MOST_DRAWS];
        private int size = 0;

        boolean has(int k) {
            return k >= 0 && k < size;
        }

        void enter(int date, int w, int clan, int amount, boolean right) {
            if (size >= MOST_DRAWS) {
                return;
            }
            facts[FACT_DATE][size] = date;
            facts[FACT_WELL][size] = w;
            facts[FACT_CLAN][size] = clan;
            facts[FACT_AMOUNT][size] = amount;
            facts[FACT_RIGHT][size] = right ? 1 : 0;
            facts[FACT_KNOWN][size] = right ? date : NONE;
            size++;
        }

        int rightfulOn(int date, int w, int clan) {
            int sum = 0;
            for (int k = 0; k < size; k++) {
                if (facts[FACT_DATE][k] == date && facts[FACT_WELL][k] == w && isOf(k, clan, true)) {
                    sum += facts[FACT_AMOUNT][k];
                }
            }
            return sum;
        }

        int sum(int clan, int from, int to, boolean right) {
            int sum = 0;
            for (int k = 0; k < size; k++) {
                if (isOf(k, clan, right) && isWithin(facts[FACT_DATE][k], from, to)) {
                    sum += facts[FACT_AMOUNT][k];
                }
            }
            return sum;
        }

        int sumKnown(int clan, int from, int to, boolean right, int day) {
            int sum = 0;
            for (int k = 0; k < size; k++) {
                if (isOf(k, clan, right) && isWithin(facts[FACT_DATE][k], from, to) && isKnown(k, day)) {
                    sum += facts[FACT_AMOUNT][k];
                }
            }
            return sum;
        }

        /** Not by the number of the day alone: NONE is below days that can be asked for. */
        private boolean isKnown(int k, int day) {
            int known = facts[FACT_KNOWN][k];
            return known != NONE && known <= day;
        }

        private boolean isOf(int k, int clan, boolean right) {
            return facts[FACT_CLAN][k] == clan && facts[FACT_RIGHT][k] == (right ? 1 : 0);
        }
    }

    /** The herds; one whose clan is NONE is not there. */
    private static final class Flock {
        private final int[] clan = new int[HERDS];
        private final int[] need = new int[HERDS];
        private final int[] lasts = new int[HERDS];
        private final int[] place = new int[HERDS];
        private final int[] drank = new int[HERDS];

        Flock() {
            Arrays.fill(clan, NONE);
        }

        void put(int h, int whose, int draws, int days) {
            clan[h] = whose;
            need[h] = draws;
            lasts[h] = days;
        }

        boolean isThere(int h) {
            return clan[h] != NONE;
        }

        int size() {
            int there = 0;
            for (int h = 0; h < HERDS; h++) {
                there += isThere(h) ? 1 : 0;
            }
            return there;
        }
    }

    /**
     * Looks for a plan, the first thing first. A turn is one herd on one planned day, numbered day
     * by day and herd by herd; rows of days are 0 for today, 1 for the first planned day and so on.
     */
    private static final class Planner {
        private static final int DRINKS = 0;
        private static final int STAYS = 1;
        private static final int GOES = 2;
        private static final int LAST_ACT = GOES + WELLS - 1;
        /** Under way, or a herd that is not there: nothing is done, and that is no look. */
        private static final int IDLE = 9;
        private static final int TURNS = MOST_PLAN_DAYS * HERDS;
        /** Between two looks lie at most all turns on and all turns back. */
        private static final int MOST_MOVES = 2 * TURNS * (MOST_LOOKS + 2);

        private final Land land;
        private final Calendar calendar;
        private final Flock flock;
        private Law law;
        private int date = 0;
        private final Day[] days = new Day[MOST_PLAN_DAYS + 1];
        /** By row of the day and herd, as its turn leaves it. */
        private final int[][] place = new int[MOST_PLAN_DAYS + 1][HERDS];
        private final int[][] arrives = new int[MOST_PLAN_DAYS + 1][HERDS];
        private final int[][] drank = new int[MOST_PLAN_DAYS + 1][HERDS];
        /** By turn: the latest act tried there. */
        private final int[] acts = new int[TURNS];
        private int looks = 0;
        private int reach = 0;
        /** The latest plan that was found, by turn; NONE for a herd that was not there. */
        private final int[] found = new int[TURNS];
        private int foundDate = 0;
        private int foundDays = 0;

        Planner(Land land, Calendar calendar, Flock flock, Law law) {
            this.land = land;
            this.calendar = calendar;
            this.flock = flock;
            this.law = law;
            for (int i = 0; i <= MOST_PLAN_DAYS; i++) {
                days[i] = new Day();
            }
        }

        void start(Law inForce, Day today, int from) {
            law = inForce;
            date = from;
            looks = 0;
            reach = 0;
            days[0].copyLevels(today);
            for (int h = 0; h < HERDS; h++) {
                place[0][h] = flock.place[h];
                arrives[0][h] = 0;
                drank[0][h] = flock.drank[h];
            }
        }

        int search(int n, int mostLooks) {
            int turn = 0;
            acts[0] = NONE;
            openDay(1);
            for (int move = 0; move < MOST_MOVES && turn < TURNS; move++) {
                int act = nextAct(turn);
                if (act == NONE) {
                    turn--;
                    if (turn < 0) {
                        return PLAN_NONE;
                    }
                    undo(turn);
                    continue;
                }
                if (act != IDLE && looks == mostLooks) {
                    return PLAN_CUT;
                }
                looks += act == IDLE ? 0 : 1;
                perform(turn, act);
                if (turn % HERDS == HERDS - 1) {
                    int row = rowOf(turn);
                    if (!isGood(row)) {
                        undo(turn);
                        continue;
                    }
                    reach = Math.max(reach, row);
                    if (row >= n) {
                        keepFound(n);
                        return PLAN_FOUND;
                    }
                    openDay(row + 1);
                }
                turn++;
                if (turn < TURNS) {
                    acts[turn] = NONE;
                }
            }
            return PLAN_NONE;
        }

        int actOf(int h, int day) {
            if (!isHerd(h) || day <= foundDate || day > foundDate + foundDays) {
                return NONE;
            }
            return found[(day - foundDate - 1) * HERDS + h];
        }

        private static int rowOf(int turn) {
            return turn / HERDS + 1;
        }

        private void openDay(int row) {
            if (row < 1 || row > MOST_PLAN_DAYS) {
                return;
            }
            days[row].grow(days[row - 1], land);
            days[row].settle(law, calendar, date + row);
        }

        /** NONE, if the herd has nothing more that it can do. */
        private int nextAct(int turn) {
            int row = rowOf(turn);
            int h = turn % HERDS;
            int latest = acts[turn];
            if (!flock.isThere(h) || arrives[row - 1][h] > row) {
                return latest == NONE ? IDLE : NONE;
            }
            for (int act = latest + 1; act <= LAST_ACT; act++) {
                if (canDo(row, h, act)) {
                    return act;
                }
            }
            return NONE;
        }

        private boolean canDo(int row, int h, int act) {
            int w = place[row - 1][h];
            if (act == DRINKS) {
                return days[row].level[w] >= flock.need[h] && days[row].isRight(law, w, flock.clan[h]);
            }
            return act == STAYS || land.wayDays[w][act - GOES] > 0;
        }

        private void perform(int turn, int act) {
            int row = rowOf(turn);
            int h = turn % HERDS;
            int w = place[row - 1][h];
            acts[turn] = act;
            place[row][h] = w;
            arrives[row][h] = arrives[row - 1][h];
            drank[row][h] = drank[row - 1][h];
            if (act == DRINKS) {
                days[row].level[w] -= flock.need[h];
                drank[row][h] = date + row;
            } else if (act >= GOES && act <= LAST_ACT) {
                place[row][h] = act - GOES;
                arrives[row][h] = row + land.wayDays[w][act - GOES];
            }
        }

        /** Rows are written anew by the next act; water alone must come back. */
        private void undo(int turn) {
            if (acts[turn] == DRINKS) {
                int row = rowOf(turn);
                int h = turn % HERDS;
                days[row].level[place[row][h]] += flock.need[h];
            }
        }

        private boolean isGood(int row) {
            for (int h = 0; h < HERDS; h++) {
                if (flock.isThere(h) && date + row - drank[row][h] > flock.lasts[h]) {
                    return false;
                }
            }
            return true;
        }

        private void keepFound(int n) {
            foundDate = date;
            foundDays = n;
            for (int turn = 0; turn < n * HERDS && turn < TURNS; turn++) {
                found[turn] = flock.isThere(turn % HERDS) ? acts[turn] : NONE;
            }
        }
    }
}
