/** Promise 7 (rule): what the RULES of a GRAMMAR are like. */
public final class RuleTest {
    private static final Probe P = new Probe();

    public static void main(String[] args) {
        traits();
        traitsThroughNames();
        firsts();
        entries();
        edges();
        P.finish();
    }

    /** The traits that the first RULE has: N nullable, S sure, F nofail. */
    private static void traits(String text, String want) {
        P.fresh();
        P.due("grammar " + text, P.grammar(text) > 0, true);
        P.due("nullable " + text, P.house.rule(0, 0), want.contains("N") ? 1 : 0);
        P.due("sure " + text, P.house.rule(0, 1), want.contains("S") ? 1 : 0);
        P.due("nofail " + text, P.house.rule(0, 2), want.contains("F") ? 1 : 0);
    }

    private static void traits() {
        traits("a = ;", "NF");
        traits("a = '';", "NF");
        traits("a = 'x';", "S");
        traits("a = [];", "S");
        traits("a = .;", "S");
        traits("a = 'xy';", "");
        traits("a = 'x' 'y'?;", "S");
        traits("a = 'x' ();", "S");
        traits("a = () 'x';", "");
        traits("a = '' 'x';", "");
        traits("a = 'x' &'y';", "");
        traits("a = 'x' 'y'* ('z' / );", "S");
        traits("a = 'x' / 'y' 'z'?;", "S");
        traits("a = 'x' / 'y' 'z';", "");
        traits("a = 'x' / ;", "NF");
        traits("a = 'x' 'y' / 'z'?;", "NF");
        traits("a = 'x' 'y' / &'z';", "N");
        traits("a = 'x'?;", "NF");
        traits("a = 'xy'*;", "NF");
        traits("a = 'x'+;", "S");
        traits("a = 'xy'+;", "");
        traits("a = &'x';", "N");
        traits("a = !'x';", "N");
        traits("a = &();", "N");
        traits("a = {'x'};", "S");
        traits("a = {'x'?};", "NF");
        traits("a = {&'x'};", "N");
        traits("a = {'x'?} {!'y'};", "N");
        traits("a = 'x'^1;", "S");
        traits("a = 'x'^2;", "");
        traits("a = 'x'?^3;", "NF");
        traits("a = ()^9;", "NF");
        traits("a = (('x')) / (('y'));", "S");
    }

    private static void traitsThroughNames() {
        traits("a = b; b = 'x'? / c; c = 'y';", "NF");
        traits("a = b c; b = 'x'; c = d*; d = 'y' 'z';", "S");
        traits("a = b / c; b = 'x' d; c = 'y'+; d = 'z'?;", "S");
        traits("a = 'x' a / 'y';", "");
        traits("a = 'x' a / ;", "NF");
        traits("a = 'x' a?;", "S");
        traits("a = 'x' b; b = 'y' a / ;", "S");
        traits("a = 'x' b; b = 'y' b;", "");
        traits("a = b^2 b; b = &c; c = 'x';", "N");
        StringBuilder chain = new StringBuilder();
        for (int k = 0; k < 59; k++) {
            chain.append("r" + k + " = {r" + (k + 1) + "};");
        }
        traits(chain + "r59 = 'x' r59?;", "S");
        traits(chain + "r59 = 'x' / ;", "NF");
    }

    /** FIRST of the first RULE, as bytes of a text. */
    private static void first(String text, String want) {
        P.fresh();
        P.due("grammar " + text, P.grammar(text) > 0, true);
        int[] words = new int[8];
        for (int i = 0; i < want.length(); i++) {
            words[want.charAt(i) / 32] |= 1 << want.charAt(i) % 32;
        }
        for (int w = 0; w < 8; w++) {
            P.due("FIRST " + w + " of " + text, P.house.rule(0, 4 + w), words[w]);
        }
    }

    private static void firsts() {
        first("a = ;", "");
        first("a = 'xy';", "x");
        first("a = 'x_1\\x41'i;", "xX");
        first("a = '_'i;", "_");
        first("a = '\\x41'i;", "aA");
        first("a = [a-c\\]x];", "abcx]");
        first("a = [^\\x02-\\xff];", "\u0000\u0001");
        first("a = [];", "");
        first("a = [\\n\\t\\r\\x0b\\'\\]\\-\\\\\\^];", "\n\t\r\u000b']-\\^");
        first("a = '\\r' / '\\t' / '\\n' / '\\x9a' / '\\xa9' / '\\'';", "\r\t\n\u009a\u00a9'");
        first("a = [ -\\'] / '\\\\' / ']' / '-' / [^\\x00-}\\x7f-\\xff];", " !\"#$%&'\\]-~");
        first("a = 'p'? 'q'* 'r' 's';", "pqr");
        first("a = &'p' 'q';", "q");
        first("a = !'p';", "");
        first("a = 'p' / 'q' 'r' / ;", "pq");
        first("a = ('p'? / 'q')^2 's';", "pqs");
        first("a = {'p'+} 'q';", "p");
        first("a = {'p'?} 'q';", "pq");
        first("a = b 'z'; b = c / 'p' b; c = 'q'?;", "pqz");
        first("a = '(' a ')' a / ;", "(");
        StringBuilder chain = new StringBuilder();
        for (int k = 0; k < 59; k++) {
            chain.append("r" + k + " = r" + (k + 1) + " 'z';");
        }
        first(chain + "r59 = '\u0041\\xff'? ;", "Az");
        P.fresh();
        P.grammar("a = .;");
        for (int what = 4; what < 12; what++) {
            P.due("all bytes " + what, P.house.rule(0, what), -1);
        }
    }

    private static void entries() {
        P.fresh();
        P.grammar("a = 'xy'; b = ; c = b? 'z'; d = (c)*;");
        int[] want = {2, 5, 6, 11};
        for (int k = 0; k < want.length; k++) {
            P.due("entry " + k, P.house.rule(k, 3), want[k]);
        }
    }

    private static void edges() {
        P.due("rule -1", P.house.rule(-1, 0), -1);
        P.due("rule 4", P.house.rule(4, 0), -1);
        P.due("rule most", P.house.rule(Integer.MAX_VALUE, 3), -1);
        P.due("what -1", P.house.rule(0, -1), -1);
        P.due("what 12", P.house.rule(0, 12), -1);
        P.due("what least", P.house.rule(0, Integer.MIN_VALUE), -1);
        P.due("what most", P.house.rule(0, Integer.MAX_VALUE), -1);
    }
}
