/** Promises 4 (grammar) and 5 (fault): texts, each with the FAULT that is due. */
public final class FaultTest {
    private static final Probe P = new Probe();

    public static void main(String[] args) {
        malformedTokens();
        malformedBytes();
        limits();
        nesting();
        names();
        leftRules();
        emptyLoops();
        tooManyInstructions();
        tooManySets();
        tooManyBytes();
        order();
        whatStays();
        P.finish();
    }

    private static void fault(String text, int kind, int place) {
        P.fresh();
        P.due("grammar " + text, P.grammar(text), -1);
        P.due("kind " + text, P.house.fault(0), kind);
        P.due("place " + text, P.house.fault(1), place);
        P.due("another " + text, P.house.fault(2), -1);
        P.due("tape " + text, P.house.count(6), 0);
    }

    /** The FAULT of each text stands where it has its @, which is taken out. */
    private static void faults(int kind, String... texts) {
        for (String text : texts) {
            int place = text.indexOf('@');
            fault(text.substring(0, place) + text.substring(place + 1), kind, place);
        }
    }

    private static void fine(String text, int rules) {
        P.fresh();
        P.due("grammar " + text, P.grammar(text), rules);
        P.due("kind " + text, P.house.fault(0), 0);
        P.due("place " + text, P.house.fault(1), -1);
        P.due("another " + text, P.house.fault(-1), -1);
        P.due("tape " + text, P.house.count(6), 0);
    }

    private static void malformedTokens() {
        faults(1, "@", " \t\r\n@", "# nothing@", "# nothing\n@", "a@", "a @", "a =@", "a = 'x'@", "a = b @",
            "a = 'x' # ; @", "a = ('x'@", "a = {'x'@", "a = &@", "a = 'x'^@");
        faults(1, "@= 'x';", "@1 = 'x';", "a @'x';", "a# c\n@: b;", "a@.", "a =@= 'x';", "a = b @= c;",
            "a = 'x'; @;", "a = 'x';@/", "a = 'x' @);", "a = ('x'@;", "a = ('x' @};", "a = {'x' @);");
        faults(1, "a = @?;", "a = / @*;", "a = &@;", "a = ! @/;", "a = 'x'^@0;", "a = 'x'^@ 2;", "a = 'x'^@:;", "a = 'x'^@/;",
            "a = 'x'^2@2;", "a = 'x' ^@a;", "a = @\u00ff;", "a = @\u0000;", "a = @-;", "a = @];", "a = @\\x41;");
        fine("a=;", 1);
        fine("#c\na=#c\n;#c", 1);
        fine("# \u00e9 = ;'\n a\t=\r'x' / ;\n b = a ;", 2);
        fine("_ = a_9 ; a_9 = . ;", 2);
        fine("azAZ_09 = zZ aA ; zZ = . ; aA = . ;", 3);
        faults(1, "a@`b = ;", "a@{b = ;", "a@@b = ;", "a@[b = ;", "a@/b = ;", "a@:b = ;", "@` = ;", "@[ = ;", "@9a = ;");
        behindTheEnd("a = 'x';", 7);
        behindTheEnd("a = 'x'", 6);
        behindTheEnd("a = [x]", 6);
        behindTheEnd("a = 'x'^2;", 8);
        behindTheEnd("ab = ;", 1);
        fine("a = & ! 'x' ^1 ? / ( ) { } /'y' ;", 1);
    }

    /** What end() cut off is not read, though it would go on well. */
    private static void behindTheEnd(String text, int n) {
        P.fresh();
        P.tape(text);
        P.due("end", P.house.end(n), n);
        P.due("grammar " + text, P.house.grammar(), -1);
        P.due("kind " + text, P.house.fault(0), 1);
        P.due("place " + text, P.house.fault(1), n);
    }

    private static void malformedBytes() {
        faults(1, "a = '@", "a = 'x@", "a = '\\@", "a = '\\x@", "a = '\\x4@", "a = 'x'i'y@", "a = [@", "a = [^@",
            "a = [a@", "a = [a-@", "a = [\\@");
        faults(1, "a = '\\x4@g';", "a = '\\x4@';", "a = '\\x@A1';", "a = '\\@q';", "a = '@\n';", "a = '@\u007f';",
            "a = '@\u0080';", "a = '@\u001f';");
        faults(1, "a = [@-a];", "a = [^@-];", "a = [a-@];", "a = [a-b@-c];", "a = [a-@-];", "a = [b-@a];",
            "a = [b-@\\x61];", "a = [\\x62-@\\n];", "a = [b-\\@q];", "a = [b-\\x6@g];", "a = [@\n];", "a = [\\@a];");
        fine("a = '' ''i 'a]-^[' '\\'\\]\\-\\\\\\^' '\\n\\t\\r\\x00\\xff';", 1);
        fine("a = [] [^] [^^] [a^] ['\\'[] [\\]\\-\\\\\\^] [\\t-\\r] [ -~] [a-a] [\\x00-\\xff] [!-,];", 1);
        fine("a = 'x'ii; i = 'y'i i2; i2 = .;", 3);
    }

    private static void limits() {
        String twenty = "n".repeat(20);
        fine(twenty + " = ;", 1);
        fine("a = " + twenty + "; " + twenty + " = 'x';", 2);
        faults(1, twenty + "@n = ;", "a = " + twenty + "@_;", "a = " + twenty + "@1;");
        StringBuilder rules = new StringBuilder();
        for (int k = 0; k < 60; k++) {
            rules.append('r').append(k).append("='x';");
        }
        fine(rules.toString(), 60);
        fine(rules + "# more\n", 60);
        faults(1, rules + " @a = 'x';", rules + " @1");
        faults(1, "a = 'x' ? * + @?;", "a = 'x'^2^3? @^4;", "a = 'x'^2^3?@*;");
        fine("a = ('x'^2^2+)^2+^2;", 1);
    }

    private static void nesting() {
        String[] openers = {"(", "{", "!(", "&{", "& ( ! {"};
        for (String opener : openers) {
            String open = opener.repeat(40 / opener.replace(" ", "").length());
            StringBuilder close = new StringBuilder();
            for (int i = open.length() - 1; i >= 0; i--) {
                close.append(open.charAt(i) == '(' ? ")" : open.charAt(i) == '{' ? "}" : "");
            }
            fine("a = " + open + "'x'" + close + " (&'x') {!'y'};", 1);
            for (String more : new String[] {"@(", "@{", "@&", "@!", "'x' @(", "'x' / 'y' @!"}) {
                faults(1, "a = " + open + " " + more);
            }
        }
        String prefixes = "& ! ".repeat(20);
        fine("a = " + prefixes + "'x' & ! ('x');", 1);
        faults(1, "a = " + prefixes + "@&'x';", "a = " + prefixes + "@!'x';", "a = " + prefixes + "@('x');",
            "a = " + prefixes + "@{'x'};");
    }

    private static void names() {
        faults(2, "a = @b;", "a = 'x'; @a = 'y';", "a = 'x' @q; a = 'y';", "a = 'x'; @a = q;", "a = @A;",
            "a = b; b = 'x'; c = (({!'x' @bb}?)); bb2 = ;", "a = 'x'; b = 'y'; @b = ; a = ;");
        fine("a = aa; aa = aaa; aaa = 'a';", 3);
    }

    private static void leftRules() {
        faults(3, "@a = a;", "@a = 'x' / a 'y';", "@a = 'x'? a;", "@a = 'x'* !'y' &'z' '' () a;", "@a = &a 'x';",
            "@a = !(a);", "@a = {a} 'x';", "@a = (a 'x')*;", "@a = a^3;", "@a = b; b = c; c = a;",
            "a = 'x' b; @b = c 'q'; c = b;", "a = b 'x'; @b = 'y'? b; ", "@a = b a; b = 'x'?;",
            "@a = 'x'^2? a;", "@a = (/ 'x') a;", "@a = b; b = {&(a / 'y')} 'z';", "@a = (b 'x')+; b = a?;");
        fine("a = 'x' a / ;", 1);
        fine("a = [] a;", 1);
        fine("a = ('x' a)* (!'y' 'z' a)?;", 1);
        fine("a = b c; b = 'x' / 'y' a; c = 'z'?;", 3);
        fine("a = 'x'^2 a?;", 1);
    }

    private static void emptyLoops() {
        faults(4, "a = ('b'?)@*;", "a = ''@+;", "a = 'x' ()@*;", "a = 'x'*@*;", "a = 'x'?@+;", "a = 'x'? @+^2;",
            "a = 'x'+ ('y' / )@+ ('z'?)*;", "a = b@*; b = &'x';", "a = b@+; b = c c; c = !'x';",
            "a = ({'x'?})@*;", "a = (('x'?)@+ 'y'?)*;", "a = 'x'?^2@*;", "a = ('x'* 'y'*) @*;");
        fine("a = ('x'? 'y')* ('x'+)+ ([]*'z')* 'x'+? 'x'*?;", 1);
    }

    private static void tooManyInstructions() {
        fine("a = " + ".".repeat(1997) + ";", 1);
        P.due("instructions", P.house.count(1), 2000);
        fault("a = " + ".".repeat(1998) + ";", 5, 2003);
        fine("a = (" + "/".repeat(500) + ");", 1);
        fault("a = (((('b'^9^9^9)^9^9^9)^9^9^9)^9^9^9);", 5, 40);
        fault("a = ('b'^9^9^9)^3;# at the end, not here", 5, 40);
        fault("a = " + "(".repeat(40) + "'x'" + ")^9^9^9".repeat(40) + ";", 5, 328);
        fault("a = " + "(".repeat(40) + "'x'" + ")++".repeat(40) + ";", 5, 168);
        fine("a = ()^9^9^9 " + "(".repeat(40) + ")^9^9^9".repeat(40) + ";", 1);
        P.due("what has no instructions has none", P.house.count(1), 3);
        fine("a = (" + "()".repeat(1500) + ".)^9^9^9;", 1);
        P.due("instructions", P.house.count(1), 732);
    }

    private static void tooManySets() {
        StringBuilder sets = new StringBuilder("a = ");
        for (int k = 0; k < 128; k++) {
            sets.append(String.format("[\\x%02x-\\x%02x]", k, k + 1));
        }
        fine(sets + "[\\x00-\\x01];", 1);
        P.due("SETS", P.house.count(2), 128);
        fault(sets + "'q'*;", 5, sets.length() + 5);
    }

    private static void tooManyBytes() {
        fine("a = " + "b ".repeat(637) + "; b = 'x'*;", 2);
        P.due("bytes", P.house.count(3), 61414);
        fault("a = " + "b ".repeat(637) + "; b = {.};", 5, 1288);
    }

    private static void order() {
        faults(1, "a = b; a = a; c = ''* @", "a = ''*; b = b; b = @");
        faults(2, "b = b ''*; @b = 'x';");
        faults(3, "a = ''* ('b'^9^9^9)^9; @b = b;");
        faults(4, "a = ('b'^9^9^9)^9 ''@*;");
    }

    private static void whatStays() {
        String[] texts = {"a", "a = q;", "a = a;", "a = ''*;", "a = ('b'^9^9^9)^9;", "c = 'x'; d = {[0-9]} 'q",
            "a = " + "b ".repeat(638) + "; b = {.};"};
        for (String text : texts) {
            P.fresh();
            P.due("grammar", P.grammar("a = {'x'} b; b = [yz];"), 2);
            int[] before = answers();
            P.due("grammar " + text, P.grammar(text), -1);
            int[] behind = answers();
            for (int i = 0; i < before.length; i++) {
                P.due("answer " + i + " behind " + text, behind[i], before[i]);
            }
            P.subject("xy");
            P.due("match behind " + text, P.house.match(0, 9), 2);
        }
        P.due("the FAULT is still told", P.house.fault(0), 5);
        P.due("grammar", P.grammar("q = 'w';"), 1);
        P.due("fault", P.house.fault(0), 0);
        P.due("fault", P.house.fault(1), -1);
        P.due("no { now", P.house.count(4), 0);
        P.due("grammar of the tape that is empty", P.house.grammar(), -1);
        P.due("fault", P.house.fault(0), 1);
        P.due("fault", P.house.fault(1), 0);
    }

    /** Some of what is told of the GRAMMAR. */
    private static int[] answers() {
        int[] all = new int[100];
        for (int i = 0; i < 60; i++) {
            all[i] = P.house.image(7 * i);
        }
        for (int i = 0; i < 5; i++) {
            all[60 + i] = P.house.count(i);
            all[65 + i] = P.house.rule(1, i + 3);
            all[70 + i] = P.house.set(0, i);
            all[75 + i] = P.house.program(i, 0);
            all[80 + i] = P.house.program(i, 1);
            all[85 + i] = P.house.program(i, 2);
            all[90 + i] = P.house.program(i, 3);
        }
        return all;
    }
}
