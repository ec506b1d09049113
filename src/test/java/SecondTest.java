import java.util.ArrayList;
import java.util.List;

/** Promises 4 to 9 on many texts: FAULTS, traits, FIRST, PROGRAMS and SETS are those of a second reading. */
public final class SecondTest {
    private static final Probe P = new Probe();
    /** GRAMMARS that are in the house before, so that nothing of them may count. */
    private static final String[] AHEAD = {"q=;", "q=" + "()".repeat(60) + ";", "q=" + "(.'x'/.'y')".repeat(9) + ";", "q=" + "{.*}[ab]".repeat(9) + ";"};
    private static final int[] KINDS = new int[6];
    /** How often each op's place was at each byte of a BUNDLE. */
    private static final int[][] OFFSETS = new int[19][32];

    public static void main(String[] args) {
        Peg.Dice dice = new Peg.Dice(29);
        for (int round = 0; round < 4000; round++) {
            compare(Second.random(dice));
        }
        leastWhateverWas();
        large();
        for (int kind = 0; kind < KINDS.length; kind++) {
            P.due("texts with a FAULT of kind " + kind + " were seen", KINDS[kind] > 9, kind != 1);
        }
        P.finish();
    }

    /** "The following are the least that are so", though all nodes of the GRAMMAR before were NULLABLE. */
    private static void leastWhateverWas() {
        String[] texts = {"z=a z;a=a;", "z=a z;a=b;b=a;", "z=a z 'x';y=b y;a=b;b=a;", "z=(a)z?;a=a a;", "z={a}z;a={a};", "z='x'z;", "z='x'/'y'z;", "z='x'y;y='z'z;"};
        for (String text : texts) {
            for (int pad = 0; pad < AHEAD.length; pad++) {
                compare(text + " ".repeat(pad));
            }
        }
    }

    /** Texts that are too large, and texts that just are not. */
    private static void large() {
        for (int many = 660; many <= 670; many++) {
            compare("a=" + "{.}".repeat(many) + ";");
            compare("a=" + ".?b".repeat(many / 3) + ";b='x'/'yz';");
        }
        for (int many = 493; many <= 503; many++) {
            compare("a=" + ".?.*.".repeat(many) + ";");
        }
    }

    private static void compare(String text) {
        Second second = new Second(text);
        P.fresh();
        P.grammar(AHEAD[text.length() % AHEAD.length]);
        int answer = P.grammar(text);
        boolean imageTooLarge = second.faultKind == 0 && P.house.fault(0) == 5;
        if (imageTooLarge) {
            P.due("an IMAGE that is too large " + text, new Layout(rows(second)).size > 61440, true);
            KINDS[5]++;
            return;
        }
        KINDS[second.faultKind]++;
        P.due("grammar " + text, answer, second.faultKind == 0 ? second.roots.size() : -1);
        P.due("kind " + text, P.house.fault(0), second.faultKind);
        P.due("place " + text, P.house.fault(1), second.faultPlace);
        if (second.faultKind != 0) {
            return;
        }
        P.due("{ of " + text, P.house.count(4), second.captures);
        for (int k = 0; k < second.roots.size(); k++) {
            P.due("NULLABLE " + k + " " + text, P.house.rule(k, 0), second.nullable[k] ? 1 : 0);
            P.due("SURE " + k + " " + text, P.house.rule(k, 1), second.sure[k] ? 1 : 0);
            P.due("NOFAIL " + k + " " + text, P.house.rule(k, 2), second.nofail[k] ? 1 : 0);
            P.due("entry " + k + " " + text, P.house.rule(k, 3), second.entries[k]);
            for (int w = 0; w < 8; w++) {
                P.due("FIRST " + w + " of " + k + " " + text, P.house.rule(k, 4 + w), Second.word(second.first[k], w));
            }
        }
        P.due("SETS " + text, P.house.count(2), second.sets.size());
        for (int k = 0; k < Math.min(20, second.sets.size()); k++) {
            for (int w = 0; w < 8; w++) {
                P.due("SET " + k + " " + w + " of " + text, P.house.set(k, w), Second.word(second.sets.get(k), w));
            }
        }
        program(text, second);
    }

    private static int[][] rows(Second second) {
        int[][] rows = new int[second.lines.size()][];
        for (int i = 0; i < rows.length; i++) {
            Second.Line line = second.lines.get(i);
            rows[i] = new int[] {line.op, line.number, line.target == null ? -1 : line.target.place};
        }
        return rows;
    }

    private static void program(String text, Second second) {
        int[][] rows = rows(second);
        P.due("instructions of " + text, P.house.count(1), rows.length);
        Layout layout = new Layout(rows);
        P.due("bytes of " + text, P.house.count(3), layout.size);
        List<String> got = new ArrayList<>();
        List<String> want = new ArrayList<>();
        int calls = 500;
        for (int i = 0; i < rows.length; i++) {
            if (calls > 480) {
                P.fresh();
                P.grammar(text);
                calls = 4 + text.length() / 20;
            }
            calls += 4;
            got.add(P.house.program(i, 0) + " " + P.house.program(i, 1) + " " + P.house.program(i, 2) + " at " + P.house.program(i, 3));
            want.add(rows[i][0] + " " + rows[i][1] + " " + rows[i][2] + " at " + layout.places[i]);
            OFFSETS[rows[i][0]][layout.places[i] % 32]++;
        }
        P.due("the PROGRAM of " + text, got.toString(), want.toString());
    }
}
