/** Edges of Part VII, promises 8 and 10: BUNDLES that are just full, jumps that just reach, and all bytes besides. */
public final class ImageEdgeTest {
    private static final Probe P = new Probe();
    private static int farthestAhead;
    private static int farthestBack;
    private static int missedAhead;
    private static int missedBack;
    private static final boolean[] REMAINDERS = new boolean[32];

    public static void main(String[] args) {
        everyInstruction();
        jumpsAhead();
        jumpsBack();
        anyTexts();
        byteEdges();
        oneBehindAnother();
        P.due("a SHORT jump that just reaches ahead was seen", farthestAhead > 0, true);
        P.due("one that just does not was seen", missedAhead > 0, true);
        P.due("a SHORT jump that just reaches back was seen", farthestBack > 0, true);
        P.due("one that just does not was seen", missedBack > 0, true);
        for (int k = 0; k < 31; k++) {
            P.due("an instruction's place at " + k + " of its BUNDLE was seen", REMAINDERS[k], true);
        }
        P.finish();
    }

    /** The PROGRAM is read in some houses, as it takes more than 512 calls. */
    private static int[][] program(String text) {
        P.fresh();
        P.due("grammar " + text, P.grammar(text) > 0, true);
        int count = P.house.count(1);
        int[][] rows = new int[count][3];
        int calls = 300;
        for (int i = 0; i < count; i++) {
            if (calls + 3 > 450) {
                P.fresh();
                P.grammar(text);
                calls = text.length() / 20 + 4;
            }
            for (int what = 0; what < 3; what++) {
                rows[i][what] = P.house.program(i, what);
            }
            calls += 3;
        }
        return rows;
    }

    private static void compare(String text) {
        int[][] program = program(text);
        Layout layout = new Layout(program);
        P.fresh();
        P.grammar(text);
        P.due("bytes of " + text, P.house.count(3), layout.size);
        P.due("the image of " + text, Probe.imageOf(text), layout.hex());
        int step = Math.max(1, program.length / 300);
        for (int i = 0; i < program.length; i += step) {
            P.due("the place of " + i + " in " + text, P.house.program(i, 3), layout.places[i]);
        }
        for (int i = 0; i < program.length; i++) {
            REMAINDERS[layout.places[i] % 32] = true;
        }
        farthestAhead += layout.farthestAhead;
        farthestBack += layout.farthestBack;
        missedAhead += layout.missedAhead;
        missedBack += layout.missedBack;
    }

    private static void everyInstruction() {
        String[] texts = {"a=;", "a='x';", "a=[xy];", "a=.;", "a=[xy]*;", "a='x'?;", "a=[xy]?;", "a=.?;", "a='x'/'y'.;", "a='xy'?;", "a='xy'/'xz';",
            "a=b.;b=.;", "a=('xy')*;", "a=&'xy';", "a=&'x';", "a=!'xy';", "a=!'x';", "a={};", "a={.}{.};", "a=[];", "a=[]*;", "a=''?;",
            "a='\\x00\\xff'*[\\x00\\xff];"};
        for (String text : texts) {
            compare(text);
        }
    }

    private static void jumpsAhead() {
        for (int many = 0; many < 16; many++) {
            compare("a=('x'" + ".".repeat(many) + "/'y')'z';");
            compare("a=.('x'" + ".".repeat(many) + "/'y')'z';");
            compare("a=.?" + ".".repeat(many) + ";");
            compare("a=" + ".".repeat(many) + "[xy]*;");
            compare("a=(.." + ".".repeat(many) + "/'y')'z';");
        }
    }

    private static void jumpsBack() {
        for (int many = 0; many < 16; many++) {
            compare("a=(." + ".?".repeat(many) + ")*;");
            compare("a=('x'" + ".?".repeat(many) + ")*;");
            compare("a=." + "(." + ".?".repeat(many) + ")*;");
            compare("a=('x'" + ".".repeat(many) + ")*;");
            compare("a=.?(.." + ".".repeat(many) + ")*;");
        }
        String[] just = {"a='xy'*&.(..?{})*;c=.;", "a=[xy]c&[xy](..?.?.*)*!.'x'{.}[xy]?;c=.;", "a='xy'*!..*{}.(.'x'?.?)*;c=.;",
            "a=![xy][xy]*'x'?'xy'*(..?'x'?)*'x';c=.;", "a=&(.*.);c=.;"};
        for (String text : just) {
            compare(text);
        }
    }

    private static void anyTexts() {
        Peg.Dice dice = new Peg.Dice(11);
        int fine = 0;
        for (int round = 0; round < 500; round++) {
            String text = Peg.Rules.random(dice).text();
            P.fresh();
            if (P.grammar(text) > 0 && P.house.count(1) < 200) {
                compare(text);
                fine++;
            }
        }
        P.due("enough of them", fine > 100, true);
        compare("a=" + "'xyz'/{[a-z]*}b?.".repeat(6) + ";b=('q'/'rs')*&'t'!'uv';");
        compare("a=" + "b ".repeat(100) + ";b={'x'}*;");
        compare("a=" + ".".repeat(700) + ";");
    }

    /** An IMAGE is the same, whatever GRAMMAR was in the house ahead of it: its jumps are SHORT at first. */
    private static void oneBehindAnother() {
        String[] texts = {"a=.;", "a=" + "{'x'}b".repeat(20) + ";b=[yz]*;", "a='x'?.?'y'?;", "a=" + "'xy'/".repeat(30) + ";", "a=[xy]*;", "a=({.}.?)*;",
            "a=" + ".".repeat(200) + ";"};
        for (String ahead : texts) {
            for (String text : texts) {
                P.fresh();
                P.grammar(text);
                int size = P.house.count(3);
                int[] bytes = new int[150];
                for (int i = 0; i < bytes.length; i++) {
                    bytes[i] = P.house.image(i * Math.max(1, size / 150));
                }
                P.fresh();
                P.grammar(ahead);
                P.grammar(text);
                String what = text + " behind " + ahead;
                P.due("bytes of " + what, P.house.count(3), size);
                for (int i = 0; i < bytes.length; i++) {
                    P.due("byte " + i + " of " + what, P.house.image(i * Math.max(1, size / 150)), bytes[i]);
                }
            }
        }
    }

    /** "Byte i of the IMAGE of the PROGRAM; NONE when there is none." */
    private static void byteEdges() {
        P.fresh();
        P.due("none without a GRAMMAR", P.house.image(0), -1);
        P.grammar("a=" + "b ".repeat(100) + ";b={'x'}*;");
        int large = P.house.count(3);
        P.due("the last", P.house.image(large - 1), 0xF4);
        P.due("behind it", P.house.image(large), -1);
        P.grammar("a=.;");
        int small = P.house.count(3);
        P.due("the last", P.house.image(small - 1), 0xF4);
        P.due("the last but one", P.house.image(small - 2), 0xFF);
        P.due("behind it, where there was one", P.house.image(small), -1);
        P.due("where the last was", P.house.image(large - 1), -1);
        P.due("the first", P.house.image(0), 0x89);
        P.due("ahead of it", P.house.image(-1), -1);
        P.grammar("a=");
        P.due("the IMAGE stays", P.house.image(small - 1), 0xF4);
        P.due("count 3", P.house.count(3), small);
    }
}
