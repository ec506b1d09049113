/**
 * "MALFORMED: at the first byte with which no GRAMMAR goes on (the text's length, if more must come)": what is told
 * of a text and of all its beginnings goes together, for many texts with a byte that is another, gone or more; and
 * it is what an automaton tells that sees the text byte by byte.
 */
public final class MalformedTest {
    private static final Probe P = new Probe();
    private static final String BYTES = "ab1_ \n#='[]^-\\(){}/&!?*+.;x09i\u007f\u0000\u00ff\"";
    private static int left;

    public static void main(String[] args) {
        Peg.Dice dice = new Peg.Dice(53);
        int malformed = 0;
        int fine = 0;
        for (int round = 0; round < 500; round++) {
            StringBuilder text = new StringBuilder(Second.random(dice));
            text.setLength(Math.min(text.length(), 100));
            for (int k = dice.below(3); k > 0 && text.length() > 0; k--) {
                change(text, dice);
            }
            if (together(text.toString())) {
                malformed++;
            } else {
                fine++;
            }
        }
        P.due("enough that are MALFORMED", malformed > 100, true);
        P.due("enough that are not", fine > 50, true);
        byAutomaton(new Peg.Dice(54));
        P.finish();
    }

    private static void byAutomaton(Peg.Dice dice) {
        int fine = 0;
        for (int round = 0; round < 24000; round++) {
            StringBuilder text = switch (round % 6) {
                case 0 -> noise(dice);
                case 1 -> new StringBuilder(Second.random(dice)).append(manyRules(dice));
                case 2 -> deep(dice);
                default -> new StringBuilder(Second.random(dice));
            };
            for (int k = dice.below(4); k > 0 && text.length() > 0; k--) {
                change(text, dice);
            }
            text.setLength(Math.min(text.length(), 2000));
            int due = Automaton.place(text.toString());
            fine += due < 0 ? 1 : 0;
            P.due("place in " + text, place(text.toString()), due);
        }
        P.due("enough that are fine", fine > 3000 && fine < 12000, true);
    }

    private static StringBuilder noise(Peg.Dice dice) {
        StringBuilder text = new StringBuilder("a=");
        for (int k = dice.below(60); k > 0; k--) {
            text.append(BYTES.charAt(dice.below(BYTES.length())));
        }
        return text;
    }

    /** So many that some texts have 60 RULES and some more; now and then a NAME is too long. */
    private static String manyRules(Peg.Dice dice) {
        StringBuilder text = new StringBuilder();
        for (int k = 50 + dice.below(12); k > 0; k--) {
            text.append("n").append(k).append("0123456789abcdefghi", 0, dice.below(20) == 0 ? 17 + dice.below(3) : 0).append("=.;");
        }
        return text.toString();
    }

    private static StringBuilder deep(Peg.Dice dice) {
        StringBuilder text = new StringBuilder("q=");
        StringBuilder end = new StringBuilder(";");
        for (int k = 36 + dice.below(8); k > 0; k--) {
            int kind = dice.below(4);
            text.append("&!({".charAt(kind));
            end.insert(0, kind < 2 ? "" : kind == 2 ? ")" : "}");
            text.append(dice.below(9) == 0 ? " . " : "");
        }
        return text.append(".").append(end);
    }

    private static void change(StringBuilder text, Peg.Dice dice) {
        int at = dice.below(text.length());
        char c = BYTES.charAt(dice.below(BYTES.length()));
        switch (dice.below(3)) {
            case 0 -> text.setCharAt(at, c);
            case 1 -> text.insert(at, c);
            default -> text.deleteCharAt(at);
        }
    }

    /** Where a text is MALFORMED, -1 if it is not. */
    private static int place(String text) {
        if (left < text.length() / 20 + 8) {
            P.fresh();
            left = 480;
        }
        left -= text.length() / 20 + 8;
        P.grammar(text);
        return P.house.fault(0) == 1 ? P.house.fault(1) : -1;
    }

    /** True if the text is MALFORMED ahead of its end. */
    private static boolean together(String text) {
        int place = place(text);
        P.due("a place of the text " + text, place <= text.length(), true);
        boolean ahead = place >= 0 && place < text.length();
        // a second BYTE that is below the first is known at its end, and told at its \
        boolean late = ahead && place > 0 && text.startsWith("-\\", place - 1);
        for (int n = 0; n < text.length(); n++) {
            int begun = place(text.substring(0, n));
            boolean beyond = ahead && n > place && (!late || n >= place + 4);
            if (beyond) {
                P.due("the beginning of " + n + " of " + text, begun, place);
            } else if (!late || n <= place) {
                P.due("the beginning of " + n + " of " + text, begun == -1 || begun == n, true);
            }
        }
        return ahead;
    }
}
