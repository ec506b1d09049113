/** Promises 8 (program) and 9 (set): texts, each with the PROGRAM that is due. */
public final class ProgramTest {
    private static final Probe P = new Probe();
    private static final String[] OPS = {"CHAR", "SET", "ANY", "SPAN", "TESTCHAR", "TESTSET", "TESTANY", "JUMP",
        "CHOICE", "COMMIT", "PARTIAL", "BACKCOMMIT", "FAILTWICE", "FAIL", "CALL", "RET", "OPEN", "CLOSE", "END"};

    public static void main(String[] args) {
        plain();
        choices();
        repeats();
        looks();
        rules();
        jumps();
        sets();
        setsThatWere();
        edges();
        P.finish();
    }

    /** Each instruction: its name, byte (in ' ' if a letter), SET or {, and > its target. */
    private static String listing() {
        StringBuilder text = new StringBuilder();
        for (int i = 0; i < P.house.count(1); i++) {
            int op = P.house.program(i, 0);
            int arg = P.house.program(i, 1);
            int target = P.house.program(i, 2);
            text.append(i == 0 ? "" : "; ").append(op >= 0 && op < OPS.length ? OPS[op] : "?");
            boolean ofByte = op == 0 || op == 4;
            boolean numbered = op == 1 || op == 3 || op == 5 || op == 16 || op == 17;
            text.append(ofByte ? " " + (char) arg : numbered ? " " + arg : arg == 0 ? "" : " ? " + arg);
            text.append(target == -1 ? "" : " >" + target);
        }
        return text.toString();
    }

    private static void whole(String text, String want) {
        P.fresh();
        P.grammar(text);
        P.due(text, listing(), want);
    }

    /** Of a text with one RULE, what stands between CALL, END and RET. */
    private static void body(String text, String want) {
        whole("a = " + text + ";", "CALL >2; END; " + want + (want.isEmpty() ? "" : "; ") + "RET");
    }

    private static void plain() {
        body("", "");
        body("'x'", "CHAR x");
        body("'xyz'", "CHAR x; CHAR y; CHAR z");
        body("'x1'i", "SET 0; CHAR 1");
        body("[x]", "CHAR x");
        body("[x-y]", "SET 0");
        body("[]", "SET 0");
        body("[^]", "ANY");
        body(".", "ANY");
        body("[\\x00-\\xff]", "ANY");
        body("(('x'))", "CHAR x");
        body("'x' / 'x'", "CHAR x");
        body("'x' / 'y' / [z]", "SET 0");
        body("'x' / [^x]", "ANY");
        body("('x' / ('y' / 'z'))", "SET 0");
        body("{'x' {'y'}}", "OPEN 0; CHAR x; OPEN 1; CHAR y; CLOSE 1; CLOSE 0");
        body("{'x'}^2 {}", "OPEN 0; CHAR x; CLOSE 0; OPEN 0; CHAR x; CLOSE 0; OPEN 1; CLOSE 1");
        body("'x'^3^1^2", "CHAR x; CHAR x; CHAR x; CHAR x; CHAR x; CHAR x");
        body("()^9", "");
    }

    private static void choices() {
        body("'x' / 'y' 'z'", "TESTCHAR x >5; CHAR x; RET; CHAR y; CHAR z");
        body("('x' / 'y' 'z') 'q'", "TESTCHAR x >5; CHAR x; JUMP >7; CHAR y; CHAR z; CHAR q");
        body("('xy' / 'z' 'q') 'q'", "TESTCHAR x >6; CHAR x; CHAR y; JUMP >8; CHAR z; CHAR q; CHAR q");
        body("('xy' / 'xz') 'q'", "TESTCHAR x >7; CHOICE >7; CHAR x; CHAR y; COMMIT >9; CHAR x; CHAR z; CHAR q");
        body("('xy' / ) 'q'", "TESTCHAR x >7; CHOICE >7; CHAR x; CHAR y; COMMIT >7; CHAR q");
        body("( / 'xy') 'q'", "CHOICE >4; COMMIT >6; CHAR x; CHAR y; CHAR q");
        body("('x' / ) 'q'", "TESTCHAR x >5; CHAR x; JUMP >5; CHAR q");
        body("('x' 'y'? / 'x' 'z') 'q'",
            "TESTCHAR x >7; CHAR x; TESTCHAR y >9; CHAR y; JUMP >9; CHAR x; CHAR z; CHAR q");
        body("(&'x' / 'y') 'q'",
            "CHOICE >7; TESTCHAR x >5; JUMP >6; FAIL; COMMIT >8; CHAR y; CHAR q");
        body("'x' 'y' / 'p' / 'q' / 'z' 'z'",
            "TESTCHAR x >6; CHAR x; CHAR y; RET; TESTSET 0 >9; SET 0; RET; CHAR z; CHAR z");
        body("('x' / ('y' / 'p' 'q') / 'z') 'w'",
            "TESTCHAR x >5; CHAR x; JUMP >13; TESTSET 0 >12; TESTCHAR y >9; CHAR y; JUMP >13; CHAR p; CHAR q; JUMP >13;"
            + " CHAR z; CHAR w");
        body("'p' / ('q' / 'rs')", "TESTCHAR p >5; CHAR p; RET; TESTCHAR q >8; CHAR q; RET; CHAR r; CHAR s");
    }

    private static void repeats() {
        body("'x'? 'q'", "TESTCHAR x >4; CHAR x; CHAR q");
        body("'xy'? 'q'", "TESTCHAR x >7; CHOICE >7; CHAR x; CHAR y; COMMIT >7; CHAR q");
        body("()? 'q'", "CHOICE >4; COMMIT >4; CHAR q");
        body("[^]? 'q'", "TESTANY >4; ANY; CHAR q");
        body("'x'*", "SPAN 0");
        body("('x' / 'y')^1*", "SPAN 0");
        body(".*", "SPAN 0");
        body("'x'+", "CHAR x; SPAN 0");
        body("({'x'})* 'q'", "TESTCHAR x >7; OPEN 0; CHAR x; CLOSE 0; JUMP >2; CHAR q");
        body("({'x'})+ 'q'", "OPEN 0; CHAR x; CLOSE 0; TESTCHAR x >10; OPEN 0; CHAR x; CLOSE 0; JUMP >5; CHAR q");
        body("'xy'* 'q'", "TESTCHAR x >7; CHOICE >7; CHAR x; CHAR y; PARTIAL >4; CHAR q");
        body("'xy'+", "CHAR x; CHAR y; TESTCHAR x >9; CHOICE >9; CHAR x; CHAR y; PARTIAL >6");
        body("'x'*?", "CHOICE >5; SPAN 0; COMMIT >5");
        body("'x'+?", "TESTCHAR x >5; CHAR x; SPAN 0");
        body("(!'x' .)*", "TESTANY >8; CHOICE >8; TESTCHAR x >6; FAIL; ANY; PARTIAL >4");
    }

    private static void looks() {
        body("!'x'", "TESTCHAR x >4; FAIL");
        body("!.", "TESTANY >4; FAIL");
        body("![]", "TESTSET 0 >4; FAIL");
        body("!'xy'", "TESTCHAR x >7; CHOICE >7; CHAR x; CHAR y; FAILTWICE");
        body("!()", "CHOICE >4; FAILTWICE");
        body("!('x' / )", "CHOICE >7; TESTCHAR x >6; CHAR x; JUMP >6; FAILTWICE");
        body("&'x'", "TESTCHAR x >4; RET; FAIL");
        body("&'x' 'q'", "TESTCHAR x >4; JUMP >5; FAIL; CHAR q");
        body("&'xy' 'q'", "TESTCHAR x >7; CHOICE >7; CHAR x; CHAR y; BACKCOMMIT >8; FAIL; CHAR q");
        body("&() 'q'", "CHOICE >4; BACKCOMMIT >5; FAIL; CHAR q");
        body("!!'x'", "CHOICE >6; TESTCHAR x >5; FAIL; FAILTWICE");
    }

    private static void rules() {
        whole("a = b 'x'; b = c; c = 'y' b / ;",
            "CALL >2; END; CALL >7; CHAR x; RET; JUMP >7; RET; TESTCHAR y >11; CHAR y; JUMP >7; RET; RET");
        whole("a = b; b = 'y';", "CALL >4; END; JUMP >4; RET; CHAR y; RET");
        whole("a = b; b = ;", "CALL >4; END; RET; RET; RET");
        whole("a = b; b = c; c = d 'x'; d = 'y' a;",
            "CALL >6; END; JUMP >6; RET; JUMP >6; RET; CALL >9; CHAR x; RET; CHAR y; JUMP >6; RET");
    }

    /** Targets at which a JUMP comes to stand, JUMPS to a RET, CALLS ahead of one. */
    private static void jumps() {
        whole("a = ('x' / 'yz') / 'x'; b = a 'q' / 'p';",
            "CALL >2; END; TESTSET 0 >10; CHOICE >10; TESTCHAR x >7; CHAR x; JUMP >9; CHAR y; CHAR z; COMMIT >11;"
            + " CHAR x; RET; TESTSET 0 >16; CALL >2; CHAR q; RET; CHAR p; RET");
        whole("a = 'x' b / 'y'; b = 'z';",
            "CALL >2; END; TESTCHAR x >6; CHAR x; JUMP >8; RET; CHAR y; RET; CHAR z; RET");
        whole("a = ('x' / b) / 'y' 'z'; b = 'p' 'q' a;",
            "CALL >2; END; TESTSET 0 >8; TESTCHAR x >11; CHAR x; RET; JUMP >11; RET; CHAR y; CHAR z; RET;"
            + " CHAR p; CHAR q; JUMP >2; RET");
        whole("a = 'x' b 'y'; b = (c / d); c = 'p' 'q'; d = 'p' 'r';",
            "CALL >2; END; CHAR x; CALL >6; CHAR y; RET; TESTCHAR p >15; CHOICE >15; CALL >12; COMMIT >11;"
            + " JUMP >15; RET; CHAR p; CHAR q; RET; CHAR p; CHAR r; RET");
        whole("a = ('x' / 'yz') b; b = ;",
            "CALL >2; END; TESTCHAR x >5; CHAR x; RET; CHAR y; CHAR z; RET; RET; RET");
    }

    private static void sets() {
        P.fresh();
        P.grammar("a = [a-c]? [\\x00\\xff] [cba] 'q'* [] [\\x00\\xff]*;");
        P.due("SETS", P.house.count(2), 4);
        int[][] want = {{0, 0, 0, 14, 0, 0, 0, 0}, {1, 0, 0, 0, 0, 0, 0, 1 << 31}, {0, 0, 0, 1 << 17, 0, 0, 0, 0},
            {0, 0, 0, 0, 0, 0, 0, 0}};
        for (int k = 0; k < want.length; k++) {
            for (int w = 0; w < 8; w++) {
                P.due("set " + k + " " + w, P.house.set(k, w), want[k][w]);
            }
        }
        P.due("as they first stand", listing(), "CALL >2; END; TESTSET 0 >4; SET 0; SET 1; SET 0; SPAN 2; SET 3; SPAN 1; RET");
        int[][] none = {{4, 0}, {-1, 3}, {0, -1}, {0, 8}, {Integer.MAX_VALUE, 0}, {0, Integer.MIN_VALUE}};
        for (int[] pair : none) {
            P.due("set " + pair[0] + " " + pair[1], P.house.set(pair[0], pair[1]), 0);
        }
    }

    private static void setsThatWere() {
        P.fresh();
        P.grammar("a = [ab] [bc] [cd] [de];");
        P.grammar("a = [^ab] [^bc] [^cd];");
        P.grammar("a = [xy];");
        for (int k = 1; k < 5; k++) {
            for (int w = 0; w < 8; w++) {
                P.due("set " + k + " " + w, P.house.set(k, w), 0);
            }
        }
        P.due("set 0", P.house.set(0, 3), 3 << 24);
    }

    private static void edges() {
        P.fresh();
        P.grammar("a = b; b = 'y';");
        P.due("instruction -1", P.house.program(-1, 0), -1);
        P.due("instruction 6", P.house.program(6, 0), -1);
        P.due("what -1", P.house.program(0, -1), -1);
        P.due("what 4", P.house.program(0, 4), -1);
        P.due("no target", P.house.program(1, 2), -1);
        P.due("no byte", P.house.program(1, 1), 0);
        P.due("the first place", P.house.program(0, 3), 0);
        P.due("behind a CALL", P.house.program(1, 3), 96);
        P.due("behind its three bytes", P.house.program(2, 3), 99);
    }
}
