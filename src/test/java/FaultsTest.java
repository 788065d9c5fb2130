/** Promises 5 and 6: faults of a text, each with its kind and place. */
public final class FaultsTest {
    public static void main(String[] args) {
        noToken();
        cannotCome();
        notAsTold();
        tooMany();
        leastOfOneToken();
        whole();
        everyWord();
        everyCut();
        everyByte();
        Check.finish();
    }

    static void fault(String text, int kind, int place) {
        Court x = Court.with("turns 5: f 1; wed a b; wed b c;");
        Check.due("rights of '" + text + "'", x.read(text), -1 - place);
        Check.due("fault of '" + text + "'", x.fault(), kind);
        Check.due("rules stay", x.count(2), 3);
        Check.due("owners stay", x.owner(5, 7), 5);
        Check.due("no new owners", x.owner(0, 7), WellCourt.NONE);
        Check.due("the tape is empty", x.count(5), 0);
    }

    private static void noToken() {
        fault("#", 1, 0);
        fault("  \n?", 1, 3);
        fault("Wed a b;", 1, 0);
        fault("wEd a b;", 1, 0);
        fault("wed aB b;", 1, 4);
        fault("wed aA b;", 1, 4);
        fault("wed aZ b;", 1, 4);
        fault("wed a1 b;", 1, 4);
        fault("wed 1a b;", 1, 4);
        fault("turns0: a 1;", 1, 0);
        fault("turns 0: a1;", 1, 9);
        fault("turns 00001: a 1;", 1, 6);
        fault("turns 1Z: a 1;", 1, 6);
        fault("wed\ta b;", 1, 3);
        fault("wed\ra b;", 1, 3);
        fault("wed a b" + (char) 233 + ";", 1, 7);
        fault("wed a b;" + (char) 0, 1, 8);
        fault("wed a b;" + (char) 255, 1, 8);
        fault("wed a b.", 1, 7);
        fault("drought 0 below -1 a;", 1, 16);
        fault("wed a_ b;", 1, 5);
    }

    private static void cannotCome() {
        fault("a", 2, 0);
        fault(";", 2, 0);
        fault("7", 2, 0);
        fault("turn 0: a 1;", 2, 0);
        fault("turnss 0: a 1;", 2, 0);
        fault("wed", 2, 3);
        fault("wed ", 2, 4);
        fault("wed a b\n\n", 2, 9);
        fault("wed a b;;", 2, 8);
        fault("wed a, b;", 2, 5);
        fault("wed ab b;", 2, 4);
        fault("wed g a;", 2, 4);
        fault("wed a z;", 2, 6);
        fault("wed 1 a;", 2, 4);
        fault("turns a: a 1;", 2, 6);
        fault("turns 0 a 1;", 2, 8);
        fault("turns 0:;", 2, 8);
        fault("turns 0: a;", 2, 10);
        fault("turns 0: a 1 b 2;", 2, 13);
        fault("turns 0: a 1,;", 2, 13);
        fault("turns 0: a 1:", 2, 12);
        fault("guest a in 0 of b 1;", 2, 8);
        fault("guest a at b of b 1;", 2, 11);
        fault("guest a at 0 by b 1;", 2, 13);
        fault("guest a at 0 of b;", 2, 17);
        fault("guest a at 0 of b 1,", 2, 19);
        fault("drought 0 under 1 a;", 2, 10);
        fault("drought 0 below a 1;", 2, 16);
        fault("drought 0 below 1 h;", 2, 18);
        fault("drought 0 below 1 a", 2, 19);
        fault("dry 1 at 2;", 2, 6);
        fault("dry 1 to b;", 2, 9);
        fault("dry 1 to 2", 2, 10);
        fault("wed turns a;", 2, 4);
    }

    private static void notAsTold() {
        fault("turns 6: a 1;", 3, 6);
        fault("turns 9999: a 1;", 3, 6);
        fault("turns 0: a 0;", 3, 11);
        fault("turns 0: a 10;", 3, 11);
        fault("turns 0: a 1, b 12;", 3, 16);
        fault("turns 0: a 1; turns 1: a 1; turns 0: b 1;", 3, 34);
        fault("turns 0: a 1; turns 0 #", 3, 20);
        fault("guest a at 6 of b 1;", 3, 11);
        fault("guest a at 0 of a 1;", 3, 16);
        fault("guest a at 0 of b 1001;", 3, 18);
        fault("wed c c;", 3, 6);
        fault("drought 6 below 1 a;", 3, 8);
        fault("drought 0 below 1001 a;", 3, 16);
        fault("dry 6 to 1;", 3, 4);
        fault("dry 1 to 6;", 3, 9);
        fault("dry 3 to 3;", 3, 9);
        fault("dry 3 to 0003;", 3, 9);
    }

    private static void tooMany() {
        String eight = "turns 0: a 1,b 1,c 1,d 1,e 1,f 1,a 1,b 1";
        fault(eight + ",c 1;", 4, 41);
        fault(eight + ",c", 4, 41);
        fault("wed a b;".repeat(20) + " wed a b;", 4, 161);
        fault("wed a b;".repeat(20) + "dry", 4, 160);
        fault("wed a b;".repeat(20) + "turns 9", 4, 160);
    }

    private static void leastOfOneToken() {
        String eight = "turns 0: a 1,b 1,c 1,d 1,e 1,f 1,a 1,b 1";
        fault(eight + ",g 1;", 2, 41);
        fault(eight + ",C 1;", 1, 41);
        fault(eight + ",", 2, 41);
        fault("wed a b;".repeat(20) + "wet a b;", 2, 160);
        fault("wed a b;".repeat(20) + ";", 2, 160);
        fault("wed a b;".repeat(20) + "Wed a b;", 1, 160);
        fault("wed a g;wed a a;", 2, 6);
    }

    private static void whole() {
        Court x = new Court();
        Check.due("eight clans", x.read("turns 0: a 1,b 1,c 1,d 1,e 1,f 1,a 1,b 1;"), 1);
        Check.due("the eighth", x.owner(0, 7), 1);
        Check.due("and again", x.owner(0, 8), 0);
        Check.due("twenty rules", x.read("wed a b;".repeat(20) + " \n"), 20);
        Check.due("all edges", x.read("turns 0: a 9; turns 5: f 1; guest a at 5 of f 1000; drought 5 below 0 a; drought 0 below 1000 f; dry 0 to 5;"), 6);
        Check.due("many turns", x.read("turns 0:a 1;turns 1:a 1;turns 2:a 1;turns 3:a 1;turns 4:a 1;turns 5:a 1;"), 6);
        Check.due("a fault leaves no trace for the next text", x.read("turns 3: b 1; wed"), -18);
        Check.due("a fault leaves no trace for the next text", x.read("turns 3: c 1;"), 1);
        Check.due("a fault leaves no trace for the next text", x.owner(3, 0), 2);
        Check.due("breaks between", x.read("turns\n0\n:\na\n1\n,\nb\n2\n;"), 1);
        String full = "wed a b;" + " ".repeat(792);
        Check.due("800 bytes", x.read(full), 1);
        Check.due("800 bytes", x.read(" ".repeat(799) + "w"), -1 - 799);
        Check.due("800 letters", x.read("w".repeat(800)), -1);
        Check.due("800 letters", x.fault(), 2);
    }

    /** A word with one other letter is another word. */
    private static void everyWord() {
        String text = "turns 0: a 1; guest d at 0 of a 15; wed b e; drought 0 below 30 c; dry 1 to 0;";
        for (String word : new String[] {"turns", "guest", "at", "of", "wed", "drought", "below", "dry", "to"}) {
            int place = (" " + text).indexOf(" " + word + " ");
            for (int i = 0; i < word.length(); i++) {
                fault(text.substring(0, place + i) + "x" + text.substring(place + i + 1), 2, place);
            }
            fault(text.substring(0, place) + word + "s" + text.substring(place + word.length()), 2, place);
            fault(text.substring(0, place) + word.substring(1) + text.substring(place + word.length()), 2, place);
        }
    }

    /** Each text that ends too early has its fault at its end, or none where a rule has ended. */
    private static void everyCut() {
        String text = "turns 0 : a 2 , b 1 ; guest d at 0 of a 15 ; wed b e ; drought 0 below 30 c ; dry 1 to 0 ;";
        for (int size = 0; size <= text.length(); size++) {
            String cut = text.substring(0, size);
            boolean inWord = size > 0 && size < text.length() && cut.charAt(size - 1) != ' ' && text.charAt(size) != ' ';
            String bare = cut.trim();
            if (bare.isEmpty() || bare.endsWith(";")) {
                Court x = new Court();
                Check.due("whole rules of '" + cut + "'", x.read(cut), bare.length() - bare.replace(";", "").length());
            } else if (!inWord) {
                fault(cut, 2, size);
            }
        }
    }

    /** Every byte alone: a blank is nothing, all else a fault at its place. */
    private static void everyByte() {
        for (int sign = 0; sign < 256; sign++) {
            boolean token = sign >= 'a' && sign <= 'z' || sign >= '0' && sign <= '9' || sign == ':' || sign == ',' || sign == ';';
            if (sign == 32 || sign == 10) {
                Check.due("a blank", new Court().read("" + (char) sign), 0);
            } else {
                fault("" + (char) sign, token ? 2 : 1, 0);
            }
        }
    }
}
