/**
 * The sentences on the tape and the text of rights that name a boundary (Terms ==== 2., promises 2,
 * 3, 5, 6): the last value that is as told, and the first that is not.
 */
public final class TextEdgesTest {
    private static final int NONE = WellCourt.NONE;
    private static final int LOW = Integer.MIN_VALUE;
    private static final int HIGH = Integer.MAX_VALUE;
    private static final int BLANKS = 0x20202020;
    private static final String EIGHT = "turns 0: a 1,b 1,c 1,d 1,e 1,f 1,a 1,b 1";
    private static final String TWENTY = "wed a b;".repeat(20);

    public static void main(String[] args) {
        wordsAreSmallLetters();
        numbersHaveOneToFourDigits();
        signsAreThree();
        blanksAreTwo();
        blanksBetweenOrNot();
        wordsAndNumbersGoOn();
        rulesAreTwentyAtMost();
        theTextMayBeEmpty();
        daysAreOneToNine();
        clansOfTurnsAreEightAtMost();
        manyIsUpToAThousand();
        wellsAreUpToFive();
        clansAreUpToF();
        clansAreOneLetter();
        theFirstFaultAlongTheText();
        ofOneTokenTheLeast();
        noTokenAtItsFirstByte();
        theEndIsHowManyBytesThereAre();
        aSecondTurnsOfOneWell();
        oneClanTwice();
        dryToItself();
        whatMayComeTwice();
        feedUpToEightHundred();
        feedTheHighestFirst();
        feedBehindTheTape();
        endUpToWhatItHas();
        endTheFirstBytesAlone();
        rightsEmptyTheTape();
        rightsTellHowMany();
        rightsOfWellsThatAreThereOrNot();
        faultAheadOfAny();
        faultOfTheLatest();
        Check.finish();
    }

    private static void due(String call, long got, long want) {
        Check.due(call, got, want);
    }

    private static void due(String call, boolean got, boolean want) {
        Check.due(call, got, want);
    }

    private static void fault(String text, int kind, int place) {
        FaultsTest.fault(text, kind, place);
    }

    private static Court whole(String text, int rules) {
        Court x = new Court();
        due("rights of '" + text + "'", x.read(text), rules);
        due("fault of '" + text + "'", x.fault(), 0);
        due("rules of '" + text + "'", x.count(2), rules);
        return x;
    }

    private static String sign(int number) {
        return String.valueOf((char) number);
    }

    // ---- Terms

    /** "WORDS (small letters)" */
    private static void wordsAreSmallLetters() {
        fault(sign('a' - 1), 1, 0);
        fault("a", 2, 0);
        fault("z", 2, 0);
        fault(sign('z' + 1), 1, 0);
        fault("A", 1, 0);
        fault("Z", 1, 0);
        fault("wed a" + sign('a' - 1), 1, 5);
        fault("wed aa", 2, 4);
        fault("wed az", 2, 4);
        fault("wed a" + sign('z' + 1), 1, 5);
        fault("wed A b;", 1, 4);
        fault("wed a" + sign('A' - 1), 1, 5);
        fault("wed aA b;", 1, 4);
        fault("wed aZ b;", 1, 4);
        fault("wed a" + sign('Z' + 1), 1, 5);
    }

    /** "NUMBERS (1 to 4 digits)" */
    private static void numbersHaveOneToFourDigits() {
        whole("turns 5: a 1;", 1);
        whole("turns 0005: a 0009;", 1);
        fault("turns 00005: a 1;", 1, 6);
        fault("turns 0: a 00001;", 1, 11);
        whole("guest a at 0 of b 0000;", 1);
        fault("guest a at 0 of b 00000;", 1, 18);
        fault("drought 0 below 9999 a;", 3, 16);
        fault("drought 0 below 10000 a;", 1, 16);
        fault("drought 0 below 99999999999999999999 a;", 1, 16);
        fault("turns " + sign('0' - 1) + ": a 1;", 1, 6);
        fault("turns 9: a 1;", 3, 6);
        fault("turns " + sign('9' + 1) + ": a 1;", 2, 6);
    }

    /** "SIGNS : , ;" */
    private static void signsAreThree() {
        whole("turns 0: a 1, b 1;", 1);
        fault("turns 0" + sign(':' + 2) + " a 1;", 1, 7);
        fault("turns 0; a 1;", 2, 7);
        fault("turns 0, a 1;", 2, 7);
        fault("turns 0: a 1" + sign(',' - 1) + " b 1;", 1, 12);
        fault("turns 0: a 1" + sign(',' + 1) + " b 1;", 1, 12);
        fault("turns 0: a 1: b 1;", 2, 12);
        fault("wed a b" + sign(';' + 1), 1, 7);
        fault("wed a b:", 2, 7);
        fault("wed a b,", 2, 7);
    }

    /** "blanks (32, 10)" */
    private static void blanksAreTwo() {
        for (int blank = 0; blank < 256; blank++) {
            boolean isPart = blank >= '0' && blank <= '9' || blank >= 'a' && blank <= 'z' || blank >= 'A' && blank <= 'Z';
            String text = "wed" + sign(blank) + "a b;";
            if (blank == 32 || blank == 10) {
                whole(text, 1);
            } else if (isPart) {
                fault(text, blank >= 'a' ? 2 : 1, 0);
            } else {
                fault(text, blank == ':' || blank == ',' || blank == ';' ? 2 : 1, 3);
            }
        }
    }

    /** "with blanks between or not" */
    private static void blanksBetweenOrNot() {
        whole("turns 0:a 1,b 2;wed a b;guest c at 0 of a 1;drought 0 below 1 c;dry 0 to 1;", 5);
        whole(" \n turns \n 0 \n : \n a \n 1 \n , \n b \n 2 \n ; \n wed\na\nb\n;\n ", 2);
        fault("weda b;", 2, 0);
        fault("wed ab;", 2, 4);
    }

    /** "a WORD, NUMBER goes on as long as letters and digits do; where it is not as told then it is no TOKEN" */
    private static void wordsAndNumbersGoOn() {
        fault("turns0: a 1;", 1, 0);
        fault("turns 0: a1;", 1, 9);
        fault("turns 0a: a 1;", 1, 6);
        fault("turns a0: a 1;", 1, 6);
        fault("turns 1234a: a 1;", 1, 6);
        fault("turns a1234: a 1;", 1, 6);
        fault("turns 0: a 1b;", 1, 11);
        fault("drought 0 below1 a;", 1, 10);
        whole("wed a b;wed b c;", 2);
        fault("wed a b;1wed b c;", 1, 8);
    }

    /** "TEXT: { RULE }, 20 at most", "4 a 21st RULE (at its WORD)" */
    private static void rulesAreTwentyAtMost() {
        whole("wed a b;".repeat(19), 19);
        whole(TWENTY, 20);
        whole(TWENTY + " \n", 20);
        for (String rule : new String[] {"turns 0: a 1;", "guest a at 0 of b 1;", "wed a b;", "drought 0 below 1 a;", "dry 0 to 1;"}) {
            whole("wed a b;".repeat(19) + rule, 20);
            fault(TWENTY + rule, 4, 160);
            fault(TWENTY + "\n " + rule, 4, 162);
            fault(TWENTY + rule.substring(0, rule.indexOf(' ')), 4, 160);
        }
        whole("dry 0 to 1;".repeat(20), 20);
        whole("drought 0 below 1 a;".repeat(20), 20);
        whole("guest a at 0 of b 1;".repeat(20), 20);
    }

    /** "TEXT: { RULE }" */
    private static void theTextMayBeEmpty() {
        whole("", 0);
        whole(" ", 0);
        whole("\n".repeat(800), 0);
        Court x = Court.with("turns 0: a 1; wed a b;");
        due("an empty tape is a text", x.rights(), 0);
        due("without rules", x.count(2), 0);
        due("without owners", x.owner(0, 0), NONE);
    }

    /** "DAYS 1 to 9" */
    private static void daysAreOneToNine() {
        fault("turns 0: a 0;", 3, 11);
        whole("turns 0: a 1;", 1);
        Court x = whole("turns 0: a 9, b 1;", 1);
        due("the ninth of nine", x.owner(0, 8), 0);
        due("then the other", x.owner(0, 9), 1);
        due("again", x.owner(0, 10), 0);
        fault("turns 0: a 10;", 3, 11);
        fault("turns 0: a 1,b 1,c 1,d 1,e 1,f 1,a 1,b 0;", 3, 39);
        whole("turns 0: a 1,b 1,c 1,d 1,e 1,f 1,a 1,b 9;", 1);
        fault("turns 0: a 1,b 1,c 1,d 1,e 1,f 1,a 1,b 10;", 3, 39);
    }

    /** "at most 8 of these", "4 a ninth CLAN of turns (at its WORD)" */
    private static void clansOfTurnsAreEightAtMost() {
        whole("turns 0: a 1;", 1);
        whole("turns 0: a 1,b 1,c 1,d 1,e 1,f 1,a 1;", 1);
        Court x = whole(EIGHT + ";", 1);
        due("the eighth", x.owner(0, 7), 1);
        due("the first again", x.owner(0, 8), 0);
        fault(EIGHT + ",c 1;", 4, 41);
        fault(EIGHT + ",\n c 1;", 4, 43);
        fault(EIGHT + ",c", 4, 41);
        fault("turns 1: a 1;" + EIGHT + ",c 1;", 4, 54);
        whole(EIGHT + ";turns 1: a 1,b 1,c 1,d 1,e 1,f 1,a 1,b 1;", 2);
        fault("turns 0:;", 2, 8);
    }

    /** "MANY 0 to 1000" */
    private static void manyIsUpToAThousand() {
        whole("guest a at 0 of b 0;", 1);
        whole("guest a at 0 of b 1000;", 1);
        fault("guest a at 0 of b 1001;", 3, 18);
        whole("drought 0 below 0 a;", 1);
        whole("drought 0 below 1000 a;", 1);
        fault("drought 0 below 1001 a;", 3, 16);
    }

    /** "WELL: a NUMBER 0 to 5", "3 a NUMBER that is not as told" */
    private static void wellsAreUpToFive() {
        String[] heads = {"turns ", "guest a at ", "drought ", "dry ", "dry 1 to "};
        String[] tails = {": a 1;", " of b 1;", " below 1 a;", " to 1;", ";"};
        for (int i = 0; i < heads.length; i++) {
            whole(heads[i] + "0" + tails[i], 1);
            whole(heads[i] + "5" + tails[i], 1);
            whole(heads[i] + "0005" + tails[i], 1);
            fault(heads[i] + "6" + tails[i], 3, heads[i].length());
            fault(heads[i] + "9999" + tails[i], 3, heads[i].length());
            fault(heads[i] + "a" + tails[i], 2, heads[i].length());
        }
        due("turns of well 5", Court.with("turns 5: a 1;").owner(5, 0), 0);
    }

    private static final String[] CLAN_HEADS = {
        "turns 0: ", "turns 0: b 1, ", "guest ", "guest b at 0 of ", "wed ", "wed b ", "drought 0 below 1 "};
    private static final String[] CLAN_TAILS = {" 1;", " 1;", " at 0 of b 1;", " 1;", " b;", ";", ";"};

    /** "CLAN: a WORD of one letter, a to f", "2 one that can't come" */
    private static void clansAreUpToF() {
        for (int i = 0; i < CLAN_HEADS.length; i++) {
            whole(CLAN_HEADS[i] + "a" + CLAN_TAILS[i], 1);
            whole(CLAN_HEADS[i] + "f" + CLAN_TAILS[i], 1);
            fault(CLAN_HEADS[i] + "g" + CLAN_TAILS[i], 2, CLAN_HEADS[i].length());
            fault(CLAN_HEADS[i] + "z" + CLAN_TAILS[i], 2, CLAN_HEADS[i].length());
        }
    }

    /** "CLAN: a WORD of one letter" */
    private static void clansAreOneLetter() {
        for (int i = 0; i < CLAN_HEADS.length; i++) {
            fault(CLAN_HEADS[i] + "aa" + CLAN_TAILS[i], 2, CLAN_HEADS[i].length());
            fault(CLAN_HEADS[i] + ";", 2, CLAN_HEADS[i].length());
            fault(CLAN_HEADS[i] + "0" + CLAN_TAILS[i], 2, CLAN_HEADS[i].length());
        }
    }

    // ---- FAULTS

    /** "FAULTS, the first along the text" */
    private static void theFirstFaultAlongTheText() {
        fault("wed a a; #", 3, 6);
        fault("wed a g; wed a a; #", 2, 6);
        fault("# wed a a;", 1, 0);
        fault("turns 6: g #", 3, 6);
        fault("turns 0: a 10 #", 3, 11);
        fault("turns 0: a 1; turns 0 #", 3, 20);
        fault(TWENTY + "wed #", 4, 160);
        fault(EIGHT + ",c #", 4, 41);
        fault("wed a b; wed b c; dry 5 to 5 wed", 3, 27);
    }

    /** "of one TOKEN the least" */
    private static void ofOneTokenTheLeast() {
        fault(TWENTY + "wet a b;", 2, 160);
        fault(TWENTY + "a", 2, 160);
        fault(TWENTY + "1", 2, 160);
        fault(TWENTY + ";", 2, 160);
        fault(TWENTY + "Wed a b;", 1, 160);
        fault(TWENTY + "wed1", 1, 160);
        fault(EIGHT + ",g 1;", 2, 41);
        fault(EIGHT + ",aa 1;", 2, 41);
        fault(EIGHT + ",;", 2, 41);
        fault(EIGHT + ",", 2, 41);
        fault(EIGHT + ",a1", 1, 41);
    }

    /** "1 no TOKEN (at its first byte)" */
    private static void noTokenAtItsFirstByte() {
        fault("wed abc1 b;", 1, 4);
        fault("wed \n 12345 b;", 1, 6);
        fault("wed a b;   ??", 1, 11);
        fault(" ".repeat(799) + "#", 1, 799);
        fault(" ".repeat(795) + "12345", 1, 795);
        fault("a".repeat(799) + "1", 1, 0);
    }

    /** "2 one that can't come (the end: how many bytes there are)" */
    private static void theEndIsHowManyBytesThereAre() {
        fault("w", 2, 0);
        fault("wed", 2, 3);
        fault("wed ", 2, 4);
        fault("wed a b", 2, 7);
        fault("wed a b\n\n", 2, 9);
        fault("turns 0: a 1", 2, 12);
        fault("turns 0: a 1,", 2, 13);
        fault("wed a b" + " ".repeat(793), 2, 800);
        fault(" ".repeat(793) + "wed a b", 2, 800);
        fault(" ".repeat(797) + "wed", 2, 800);
    }

    /** "3 a second turns of one WELL (at that TOKEN, the second one)" */
    private static void aSecondTurnsOfOneWell() {
        fault("turns 0: a 1;turns 0: b 1;", 3, 19);
        fault("turns 5: a 1;turns 5: b 1;", 3, 19);
        fault("turns 5: a 1;turns 0005: b 1;", 3, 19);
        fault("turns 0: a 1;" + "wed a b;".repeat(18) + "turns 0: a 1;", 3, 13 + 144 + 6);
        whole("turns 0: a 1;turns 1: a 1;turns 2: a 1;turns 3: a 1;turns 4: a 1;turns 5: a 1;", 6);
        fault("turns 0: a 1;turns 1: a 1;turns 2: a 1;turns 3: a 1;turns 4: a 1;turns 5: a 1;turns 3: b 1;", 3, 84);
    }

    /** "3 a wed or a guest with one CLAN twice (at that TOKEN, the second one)" */
    private static void oneClanTwice() {
        for (char clan = 'a'; clan <= 'f'; clan++) {
            char other = clan == 'f' ? 'a' : (char) (clan + 1);
            fault("wed " + clan + " " + clan + ";", 3, 6);
            whole("wed " + clan + " " + other + ";", 1);
            fault("guest " + clan + " at 0 of " + clan + " 1;", 3, 16);
            whole("guest " + clan + " at 0 of " + other + " 1;", 1);
        }
    }

    /** "3 a dry from a WELL to itself (at that TOKEN, the second one)" */
    private static void dryToItself() {
        for (int w = 0; w < 6; w++) {
            fault("dry " + w + " to " + w + ";", 3, 9);
            fault("dry " + w + " to 000" + w + ";", 3, 9);
            whole("dry " + w + " to " + (w + 1) % 6 + ";", 1);
        }
    }

    /** What no sentence forbids to come twice. */
    private static void whatMayComeTwice() {
        whole("wed a b;wed a b;wed b a;", 3);
        whole("guest a at 0 of b 1;guest a at 0 of b 2;guest b at 0 of a 1;", 3);
        whole("drought 0 below 1 a;drought 0 below 1 a;", 2);
        whole("dry 0 to 1;dry 0 to 1;dry 1 to 0;", 3);
        whole("turns 0: a 1, a 2, a 3;", 1);
    }

    // ---- Promise 2

    /** "how many it has; NONE, and none come, if it would have more than 800" */
    private static void feedUpToEightHundred() {
        Court x = new Court();
        for (int i = 1; i <= 40; i++) {
            due("feed " + i, x.feed(BLANKS, BLANKS, BLANKS, BLANKS, i == 40 ? 0x20202023 : BLANKS), 20 * i);
        }
        due("one more", x.feed(0, 0, 0, 0, 0), NONE);
        due("none come", x.count(5), 800);
        due("the 800th byte is the last", x.rights(), -1 - 799);
        for (int size : new int[] {781, 799, 780}) {
            x.text(" ".repeat(size));
            due("feed behind " + size, x.feed(BLANKS, BLANKS, BLANKS, BLANKS, 0x20202023), size == 780 ? 800 : NONE);
            due("bytes behind " + size, x.count(5), size == 780 ? 800 : size);
            due("rights behind " + size, x.rights(), size == 780 ? -800 : 0);
        }
    }

    /** "Twenty bytes come, of each number the highest first" */
    private static void feedTheHighestFirst() {
        for (int place = 0; place < 20; place++) {
            for (int sign : new int[] {0, '#', 127, 128, 255}) {
                Court x = new Court();
                int[] numbers = {BLANKS, BLANKS, BLANKS, BLANKS, BLANKS};
                int shift = 24 - place % 4 * 8;
                numbers[place / 4] = BLANKS & ~(255 << shift) | sign << shift;
                due("feed", x.feed(numbers[0], numbers[1], numbers[2], numbers[3], numbers[4]), 20);
                due("place of byte " + sign + " at " + place, x.rights(), -1 - place);
                due("kind", x.fault(), 1);
            }
        }
    }

    /** "come behind the tape" */
    private static void feedBehindTheTape() {
        Court x = new Court();
        x.text("wed a b");
        due("feed", x.feed(0x3b202020, BLANKS, BLANKS, BLANKS, 0x77656420), 27);
        due("feed", x.feed(0x62206320, 0x3b202020, BLANKS, BLANKS, BLANKS), 47);
        due("both rules", x.rights(), 2);
    }

    // ---- Promise 3

    /** "true; false, if it has not so many, or n is below 0" */
    private static void endUpToWhatItHas() {
        Court x = new Court();
        due("0 of 0", x.end(0), true);
        due("1 of 0", x.end(1), false);
        due("-1 of 0", x.end(-1), false);
        x.text("wed a b;".repeat(5));
        due("41 of 40", x.end(41), false);
        due("-1 of 40", x.end(-1), false);
        due("low", x.end(LOW), false);
        due("high", x.end(HIGH), false);
        due("all stay", x.count(5), 40);
        due("40 of 40", x.end(40), true);
        due("all stay", x.count(5), 40);
        due("39 of 40", x.end(39), true);
        due("40 of 39", x.end(40), false);
        due("39", x.count(5), 39);
        due("the last ; is gone", x.rights(), -1 - 39);
        x.text(" ".repeat(800));
        due("801 of 800", x.end(801), false);
        due("800 of 800", x.end(800), true);
        due("0 of 800", x.end(0), true);
        due("none", x.count(5), 0);
        due("1 of none", x.end(1), false);
    }

    /** "The tape has its first n bytes alone" */
    private static void endTheFirstBytesAlone() {
        String text = "wed a b;wed b c;#";
        for (int n = 0; n <= text.length(); n++) {
            Court x = new Court();
            x.text(text);
            due("end " + n, x.end(n), true);
            due("bytes", x.count(5), n);
            int want = n == 0 ? 0 : n < 4 ? -1 - (n < 3 ? 0 : n) : n < 8 ? -1 - n : n == 8 ? 1 : n < 16 ? -1 - (n < 11 ? 8 : n) : n == 16 ? 2 : -17;
            due("rights of the first " + n, x.rights(), want);
        }
        Court x = new Court();
        x.text("wed a b;###");
        x.end(8);
        due("feed behind the end", x.feed(BLANKS, BLANKS, BLANKS, BLANKS, 0x2020203a), 28);
        due("what was cut off is gone", x.rights(), -1 - 27);
    }

    // ---- Promises 5 and 6

    /** "The tape (empty then)" */
    private static void rightsEmptyTheTape() {
        Court x = Court.with("wed a b;");
        due("behind a whole text", x.count(5), 0);
        due("there is nothing to cut", x.end(1), false);
        due("a fault", x.read("wed a a;"), -7);
        due("behind a fault", x.count(5), 0);
        due("there is nothing to cut", x.end(1), false);
        due("the next bytes are the first", x.feed(BLANKS, BLANKS, BLANKS, BLANKS, 0x20202023), 20);
        due("the next bytes are the first", x.rights(), -20);
    }

    /** "how many RULES; -1 - the place of a FAULT" */
    private static void rightsTellHowMany() {
        Court x = new Court();
        for (int rules = 0; rules <= 20; rules++) {
            due("rules", x.read("wed a b;".repeat(rules)), rules);
            due("count", x.count(2), rules);
        }
        due("place 0", x.read("#"), -1);
        due("place 1", x.read(" #"), -2);
        due("place 799", x.read(" ".repeat(799) + "#"), -800);
        due("place 800", x.read(" ".repeat(797) + "dry"), -801);
        due("the rules stay", x.count(2), 20);
    }

    /** "RIGHTS (of WELLS that are there or not)" */
    private static void rightsOfWellsThatAreThereOrNot() {
        Court x = new Court();
        x.well(0, 10, 0, 5);
        due("rules", x.read("turns 0: a 1; turns 1: b 1; guest c at 1 of b 5; drought 1 below 9 d; dry 1 to 0; dry 0 to 1;"), 6);
        due("there", x.owner(0, 0), 0);
        due("not there", x.owner(1, 0), 1);
        due("not there", x.may(1, 1), NONE);
        x.well(1, 10, 0, 10);
        due("now it is there", x.may(1, 1), 1);
        due("its guest", x.may(1, 2), 2);
    }

    /** "0 without one and ahead of any" */
    private static void faultAheadOfAny() {
        Court x = new Court();
        due("ahead of any", x.fault(), 0);
        x.feed(0, 0, 0, 0, 0);
        due("ahead of any", x.fault(), 0);
        x.end(0);
        x.rights();
        due("without one", x.fault(), 0);
    }

    /** "The kind of the FAULT of the latest rights()" */
    private static void faultOfTheLatest() {
        Court x = new Court();
        String[] texts = {"#", "wed", "wed a a;", TWENTY + "wed a b;"};
        for (int first = 0; first < 4; first++) {
            for (int second = 0; second < 4; second++) {
                x = new Court();
                x.read(texts[first]);
                due("kind", x.fault(), first + 1);
                x.read(texts[second]);
                due("kind of the latest", x.fault(), second + 1);
                x.text("wed");
                due("a text that is not read", x.fault(), second + 1);
                due("asked again", x.fault(), second + 1);
            }
        }
        x.read("wed a b;");
        due("without one", x.fault(), 0);
    }
}
