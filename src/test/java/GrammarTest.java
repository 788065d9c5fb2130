import java.util.List;

/**
 * The form of each rule (Terms ==== 2.), place by place: at each place of a rule everything that a
 * text can hold is tried, and what may come there is told by the rule's form alone.
 */
public final class GrammarTest {
    private static final String[] TOKENS = {
        "turns", "guest", "at", "of", "wed", "drought", "below", "dry", "to", "days", "many", "a", "b", "c", "d", "e", "f", "g", "z", "ab",
        "0", "1", "2", "3", "4", "5", "6", "8", "9", "10", "11", "99", "999", "1000", "1001", "9999", "0000", "0001", "0009", "0010",
        ":", ",", ";"};
    private static final String[] NO_TOKENS = {"#", "A", "Turns", "turnS", "a1", "1a", "00000", "12345", "-1", "'at'", "{", ".", "\t", "\r"};
    private static final String RULES = "turns guest wed drought dry";

    private GrammarTest() {
    }

    public static void main(String[] args) {
        formOfTurns();
        formOfGuest();
        formOfWed();
        formOfDrought();
        formOfDry();
        Check.finish();
    }

    /** "'turns' WELL : CLAN DAYS { , CLAN DAYS } ;" */
    private static void formOfTurns() {
        form("turns WELL : CLAN DAYS ;", "turns 3 : d 7 ;");
        form("turns WELL : CLAN DAYS , CLAN DAYS ;", "turns 3 : d 7 , e 8 ;");
        StringBuilder kinds = new StringBuilder("turns WELL : CLAN DAYS ");
        StringBuilder rule = new StringBuilder("turns 3 : d 7 ");
        for (int i = 0; i < 7; i++) {
            kinds.append(", CLAN DAYS ");
            rule.append(", e 8 ");
        }
        form(kinds + ";", rule + ";");
    }

    /** "'guest' CLAN 'at' WELL 'of' CLAN MANY ;" */
    private static void formOfGuest() {
        form("guest CLAN at WELL of CLAN MANY ;", "guest d at 3 of e 70 ;");
    }

    /** "'wed' CLAN CLAN ;" */
    private static void formOfWed() {
        form("wed CLAN CLAN ;", "wed d e ;");
    }

    /** "'drought' WELL 'below' MANY CLAN ;" */
    private static void formOfDrought() {
        form("drought WELL below MANY CLAN ;", "drought 3 below 70 d ;");
    }

    /** "'dry' WELL 'to' WELL ;" */
    private static void formOfDry() {
        form("dry WELL to WELL ;", "dry 3 to 4 ;");
    }

    private static void form(String kinds, String rule) {
        String[] kind = kinds.split(" ");
        String[] token = rule.split(" ");
        Check.due("tokens of " + rule, token.length, kind.length);
        for (int at = 0; at < kind.length; at++) {
            for (String other : TOKENS) {
                if (!goesOn(kind, at, other)) {
                    String[] changed = token.clone();
                    changed[at] = other;
                    read(changed, kind);
                }
            }
            String ahead = text(token, 0, at);
            for (String other : NO_TOKENS) {
                FaultsTest.fault(ahead + other + " " + text(token, at + 1, token.length), 1, ahead.length());
            }
            if (at > 0) {
                FaultsTest.fault(ahead, 2, ahead.length());
                FaultsTest.fault(ahead.trim(), 2, ahead.length() - 1);
            }
        }
    }

    /** The first token that is not as the form has it tells the fault. */
    private static void read(String[] token, String[] kind) {
        String text = text(token, 0, token.length);
        for (int at = 0; at < token.length; at++) {
            int fault = faultAt(token, kind, at);
            if (fault != 0) {
                FaultsTest.fault(text, fault, text(token, 0, at).length());
                return;
            }
        }
        Court x = new Court();
        Check.due("rights of " + text, x.read(text), 1);
        Check.due("fault of " + text, x.fault(), 0);
    }

    private static String text(String[] token, int from, int to) {
        StringBuilder text = new StringBuilder();
        for (int i = from; i < to; i++) {
            text.append(token[i]).append(' ');
        }
        return text.toString();
    }

    /** Another rule's word, or the sign that ends or goes on with turns: the rest is no more of this form. */
    private static boolean goesOn(String[] kind, int at, String other) {
        boolean otherRule = at == 0 && !other.equals(kind[0]) && List.of(RULES.split(" ")).contains(other);
        boolean otherSign = kind[0].equals("turns") && at > 2 && "; ,".contains(kind[at]) && "; ,".contains(other) && !other.equals(kind[at]);
        return otherRule || otherSign;
    }

    private static int faultAt(String[] token, String[] kind, int at) {
        boolean isNumber = Character.isDigit(token[at].charAt(0));
        switch (kind[at]) {
            case "WELL":
                return !isNumber ? 2 : Integer.parseInt(token[at]) > 5 || isSecond(token, kind, at) ? 3 : 0;
            case "DAYS":
                return !isNumber ? 2 : Integer.parseInt(token[at]) < 1 || Integer.parseInt(token[at]) > 9 ? 3 : 0;
            case "MANY":
                return !isNumber ? 2 : Integer.parseInt(token[at]) > 1000 ? 3 : 0;
            case "CLAN":
                return token[at].length() != 1 || !"abcdef".contains(token[at]) ? 2 : isSecond(token, kind, at) ? 3 : 0;
            default:
                return token[at].equals(kind[at]) ? 0 : 2;
        }
    }

    /** Of wed, guest and dry: one that may not come twice has come already; zeros ahead of a number say nothing. */
    private static boolean isSecond(String[] token, String[] kind, int at) {
        for (int i = 0; i < at && !kind[0].equals("turns"); i++) {
            if (kind[i].equals(kind[at]) && bare(token[i]).equals(bare(token[at]))) {
                return true;
            }
        }
        return false;
    }

    private static String bare(String token) {
        return token.replaceFirst("^0+(?=.)", "");
    }
}
