/** Edges of Parts III, IV and VII, promises 12 to 15: places, STACKS, the METER, STEPS, EVENTS. */
public final class MatchEdgeTest {
    private static final Probe P = new Probe();

    public static void main(String[] args) {
        places();
        stacks();
        armedState();
        oneMoreThanTheStack();
        fullStack();
        meterFalls();
        anyMeter();
        lastStep();
        peakWithoutStop();
        eventEdges();
        eventsOfNone();
        peakOfNone();
        processorStays();
        armedStays();
        allBytes();
        endOfSubject();
        P.finish();
    }

    private static void house(String text, String subject) {
        P.fresh();
        P.due("grammar " + text, P.grammar(text) > 0, true);
        P.subject(subject);
    }

    /** "at a place 0 .. the SUBJECT's length". */
    private static void places() {
        for (int length : new int[] {0, 1, 2, 19, 20, 21, 4000}) {
            house("a=.*;", "y".repeat(length));
            int[] wrong = {-1, length + 1, length + 2, -length - 1, 4001, 65536, Integer.MIN_VALUE, Integer.MAX_VALUE};
            for (int place : wrong) {
                P.due("arm at " + place + " of " + length, P.house.arm(place, 5), false);
                P.due("match at " + place + " of " + length, P.house.match(place, 5), -1);
                P.due("nothing ARMED", P.house.get(6), 0);
                P.due("no IMAGE", P.house.count(7), 0);
            }
            for (int place : new int[] {length, length / 2, 0}) {
                P.due("arm at " + place + " of " + length, P.house.arm(place, 5), true);
                P.due("ebx", P.house.get(3), place);
                P.due("match at " + place + " of " + length, P.house.match(place, 5), length - place);
            }
        }
    }

    /** "with a STACK of 1 .. 1000". */
    private static void stacks() {
        house("a=.*;", "yy");
        for (int stack : new int[] {0, -1, 1001, 1002, 65536, Integer.MIN_VALUE, Integer.MAX_VALUE}) {
            P.due("arm with " + stack, P.house.arm(0, stack), false);
            P.due("match with " + stack, P.house.match(0, stack), -1);
            P.due("nothing ARMED", P.house.get(6), 0);
            P.due("no match", P.house.peak(), 0);
        }
        for (int stack : new int[] {1, 2, 999, 1000}) {
            P.due("arm with " + stack, P.house.arm(0, stack), true);
            P.due("ebp", P.house.get(5), stack);
            P.due("match with " + stack, P.house.match(0, stack), 2);
            P.due("peak", P.house.peak(), 1);
        }
    }

    /** "DATA is 0, but ..; other registers and FLAGS 0, eip 65536, no STOP", whatever was before. */
    private static void armedState() {
        house("a='x'[yz]{.}*;", "xy");
        for (int k = 0; k < 8; k++) {
            P.house.put(k, -1 - k);
        }
        P.house.put(8, -1);
        for (int at = 0; at < 65536; at += 512) {
            P.house.store(at, -1);
        }
        P.code("cc");
        P.house.run(1);
        P.due("UNKNOWN", P.house.get(10), 4);
        P.due("arm", P.house.arm(1, 7), true);
        int[] want = {0, 0, 0, 1, 0, 7, 12288, 28672, 0, 65536, 0};
        for (int what = 0; what < want.length; what++) {
            P.due("get " + what, P.house.get(what), want[what]);
        }
        for (int at = 0; at < 65536; at += 512) {
            int due = at == 0 ? 'x' | 'y' << 8 : at == 8192 ? 2 : 0;
            P.due("DATA at " + at, P.house.load(at), due);
        }
        P.due("the SET", P.house.load(4096 + 12), 3 << 25);
        P.due("DATA's last", P.house.load(65532), 0);
    }

    /** "When one more would be more than the STACK that was told: OVER": a CALL, a CHOICE, an OPEN, a CLOSE. */
    private static void oneMoreThanTheStack() {
        String[] texts = {"a=.;", "a=b.;b='x';", "a='xy'?;", "a={}.;", "a={.};", "a=&'xy'.;", "a=!'xz'.;", "a='xz'/'xy';", "a='xy'*;"};
        int[] needs = {1, 2, 2, 3, 3, 2, 2, 2, 2};
        int[] takes = {1, 2, 2, 1, 1, 1, 1, 2, 2};
        for (int i = 0; i < texts.length; i++) {
            house(texts[i], "xy");
            for (int stack = 1; stack < needs[i]; stack++) {
                P.due(texts[i] + " with " + stack, P.house.match(0, stack), -3);
                P.due("peak of " + texts[i] + " with " + stack, P.house.peak(), stack);
                P.due("eax of " + texts[i] + " with " + stack, P.house.get(0), -2);
                P.due("ebp of " + texts[i] + " with " + stack, P.house.get(5), -1);
            }
            for (int stack : new int[] {needs[i], needs[i] + 1, 1000}) {
                P.due(texts[i] + " with " + stack, P.house.match(0, stack), takes[i]);
                P.due("peak of " + texts[i] + " with " + stack, P.house.peak(), needs[i]);
            }
        }
    }

    /** A STACK of 1000, filled to the last, by returns, choices and EVENTS. */
    private static void fullStack() {
        house("a='y'a'z'/'x';", "y".repeat(999) + "x" + "z".repeat(999));
        P.due("1000 returns", P.house.match(0, 1000), 1999);
        P.due("peak", P.house.peak(), 1000);
        P.due("one less", P.house.match(0, 999), -3);
        P.due("peak", P.house.peak(), 999);
        house("a='y'a'z'/'x';", "y".repeat(1000) + "x" + "z".repeat(1000));
        P.due("1001 returns", P.house.match(0, 1000), -3);
        P.due("peak", P.house.peak(), 1000);
        P.due("but from the next place on", P.house.match(1, 1000), 1999);
        house("a=('y'a'z')?;", "y".repeat(400) + "z".repeat(400));
        P.due("returns and choices", P.house.match(0, 1000), 800);
        P.due("peak", P.house.peak(), 801);
        P.due("just so", P.house.match(0, 801), 800);
        P.due("one less", P.house.match(0, 800), -3);
        house("a={.}*;", "y".repeat(499));
        P.due("998 EVENTS and a return", P.house.match(0, 1000), 499);
        P.due("peak", P.house.peak(), 999);
        P.due("the last EVENT's place", P.house.event(997, 2), 499);
        P.due("none behind it", P.house.event(998, 2), -1);
        P.due("just so", P.house.match(0, 999), 499);
        P.due("one less", P.house.match(0, 998), -3);
        house("a={.}*;", "y".repeat(500));
        P.due("1000 EVENTS and a return", P.house.match(0, 1000), -3);
        P.due("peak", P.house.peak(), 1000);
        P.due("no EVENTS", P.house.event(0, 0), -1);
        house("a='y'{}a/'q';", "y".repeat(499) + "q");
        P.due("EVENTS and a last call", P.house.match(0, 1000), 500);
        P.due("peak", P.house.peak(), 999);
    }

    /** What is gone does not count: choices that are committed or failed, EVENTS of parts that FAIL. */
    private static void meterFalls() {
        house("a='xy'?'xy'?'xy'?'xz'?;", "xyxyxyxy");
        P.due("one choice at a time", P.house.match(0, 2), 6);
        P.due("peak", P.house.peak(), 2);
        house("a={{{'x'}}}'z'/{.}.;", "xy");
        P.due("EVENTS of the part that FAILS are gone", P.house.match(0, 1000), 2);
        P.due("peak", P.house.peak(), 8);
        P.due("EVENTS", P.house.event(1, 1), 1);
        P.due("no more EVENTS", P.house.event(2, 0), -1);
        P.due("with one less", P.house.match(0, 7), -3);
        house("a=&({.}{.}).;", "xy");
        P.due("EVENTS of an & are gone", P.house.match(0, 6), 1);
        P.due("peak", P.house.peak(), 6);
        P.due("no EVENTS", P.house.event(0, 0), -1);
        P.due("with one less", P.house.match(0, 5), -3);
        house("a='xy'*;", "xy".repeat(1500));
        P.due("a PARTIAL adds none", P.house.match(0, 2), 3000);
        P.due("peak", P.house.peak(), 2);
    }

    /** With a STACK that is just the peak the answer stays; with one less it is OVER. */
    private static void anyMeter() {
        Peg.Dice dice = new Peg.Dice(17);
        int asked = 0;
        for (int round = 0; round < 1500; round++) {
            String text = Peg.Rules.random(dice).text();
            P.fresh();
            if (P.grammar(text) < 0) {
                continue;
            }
            StringBuilder subject = new StringBuilder();
            for (int i = dice.below(12); i > 0; i--) {
                subject.append("abcABd".charAt(dice.below(6)));
            }
            P.subject(subject.toString());
            String what = text + " on " + subject;
            int answer = P.house.match(0, 1000);
            int peak = P.house.peak();
            if (answer < -2) {
                continue;
            }
            asked++;
            P.due("with the peak " + what, P.house.match(0, peak), answer);
            P.due("its peak " + what, P.house.peak(), peak);
            P.due("with one less " + what, P.house.match(0, peak - 1), peak == 1 ? -1 : -3);
            P.due("its peak " + what, P.house.peak(), peak == 1 ? 1 : peak - 1);
            P.due("no EVENTS " + what, P.house.event(0, 0) == -1 || peak == 1, true);
        }
        P.due("enough of them", asked > 300, true);
    }

    /** "at most 300000 STEPS": the HLT behind 299999 is tried, behind 300000 it is not. */
    private static void lastStep() {
        int[][] rows = {{23, 27, 299999}, {20, 29, 300000}, {26, 27, 300001}};
        for (int[] row : rows) {
            int steps = row[2];
            house("a=(&('x'*)'x')*" + ".".repeat(row[0]) + "'" + "y".repeat(row[1]) + "';", "x".repeat(138) + "y".repeat(row[0] + row[1]));
            P.due("arm", P.house.arm(0, 9), true);
            int made = 0;
            for (int k = 0; k < 4; k++) {
                made += P.house.run(100000);
            }
            P.due("its STEPS", made, steps);
            P.due("HLT", P.house.get(10), 1);
            int taken = 138 + row[0] + row[1];
            P.due("match of " + steps, P.house.match(0, 9), steps < 300000 ? taken : -4);
            P.due("its peak", P.house.peak(), 3);
            P.due("its STOP", P.house.get(10), steps < 300000 ? 1 : 0);
            P.due("what is left", P.house.run(5), Math.max(0, steps - 300000));
            P.due("then it has stopped", P.house.get(10), 1);
            P.due("and matched", P.house.get(0), taken);
            P.due("which no match() told", P.house.event(0, 0), -1);
            P.due("the peak stays", P.house.peak(), 3);
        }
    }

    /** "when it did not stop, the STACK less the least ebp so far; at most the STACK in any case". */
    private static void peakWithoutStop() {
        house("a=b!.;b='x'b'y'/'x'b'z'/'x'b/'x';", "x".repeat(30) + "q");
        P.due("it does not stop", P.house.match(0, 1000), -4);
        int first = P.house.peak();
        for (int stack : new int[] {999, 500, first}) {
            P.due("with " + stack, P.house.match(0, stack), -4);
            P.due("peak with " + stack, P.house.peak(), first);
            P.due("no EVENTS", P.house.event(0, 0), -1);
        }
        P.due("with one less", P.house.match(0, first - 1), -3);
        P.due("peak", P.house.peak(), first - 1);
        P.due("with 1", P.house.match(0, 1), -3);
        P.due("peak", P.house.peak(), 1);
        P.due("with 1000 again", P.house.match(0, 1000), -4);
        int least = 1000;
        P.due("arm", P.house.arm(0, 1000), true);
        for (int k = 0; k < 400; k++) {
            P.house.run(1);
            least = Math.min(least, P.house.get(5));
        }
        P.due("the least ebp so far", 1000 - least <= first, true);
        P.due("of the latest match(), not of a run()", P.house.peak(), first);
    }

    private static void eventEdges() {
        house("a={'x'{}}{.*};", "-xyz");
        P.due("match", P.house.match(1, 100), 3);
        int[][] want = {{0, 0, 1}, {1, 0, 2}, {1, 1, 2}, {0, 1, 2}, {2, 0, 2}, {2, 1, 4}};
        for (int i = 0; i < want.length; i++) {
            for (int what = 0; what < 3; what++) {
                P.due("event " + i + " " + what, P.house.event(i, what), want[i][what]);
            }
            for (int what : new int[] {-1, 3, Integer.MIN_VALUE, Integer.MAX_VALUE}) {
                P.due("event " + i + " " + what, P.house.event(i, what), -1);
            }
        }
        for (int i : new int[] {-1, 6, 7, 999, 1000, 1001, Integer.MIN_VALUE, Integer.MAX_VALUE}) {
            for (int what = 0; what < 3; what++) {
                P.due("event " + i + " " + what, P.house.event(i, what), -1);
            }
        }
        P.due("a match that takes 0 of them", P.house.match(4, 100), -2);
        P.due("NO has none", P.house.event(0, 0), -1);
        house("a={'x'?};", "y");
        P.due("0 bytes taken", P.house.match(0, 100), 0);
        P.due("an EVENT of that", P.house.event(0, 0), 0);
        P.due("and its place", P.house.event(1, 2), 0);
        P.due("at the SUBJECT's end", P.house.match(1, 100), 0);
        P.due("the place there", P.house.event(1, 2), 1);
    }

    /** "if that took bytes, or 0 of them": not behind NO, OVER, or no end; a -1 leaves those that were. */
    private static void eventsOfNone() {
        house("a={.}'y'/{'q'}/{}^9&'s';", "xyx");
        P.due("match", P.house.match(0, 100), 2);
        P.due("EVENT", P.house.event(1, 2), 1);
        P.due("can't be", P.house.match(4, 100), -1);
        P.due("can't be", P.house.match(0, 1001), -1);
        P.due("EVENT stays", P.house.event(1, 2), 1);
        P.due("NO", P.house.match(2, 100), -2);
        P.due("none", P.house.event(0, 0), -1);
        P.due("match", P.house.match(0, 100), 2);
        P.due("EVENT", P.house.event(0, 2), 0);
        P.due("OVER", P.house.match(0, 3), -3);
        P.due("none", P.house.event(0, 0), -1);
    }

    /** "0 when there was none": match() that was -1 is none; arm() and run() are none. */
    private static void peakOfNone() {
        P.fresh();
        P.due("new", P.house.peak(), 0);
        P.due("can't be", P.house.match(0, 5), -1);
        P.due("none", P.house.peak(), 0);
        P.grammar("a={.};");
        P.subject("x");
        P.due("can't be", P.house.match(0, 0), -1);
        P.due("arm", P.house.arm(0, 9), true);
        P.due("run", P.house.run(1000) > 0, true);
        P.due("none", P.house.peak(), 0);
        P.due("no EVENT", P.house.event(0, 0), -1);
        P.due("match", P.house.match(0, 9), 1);
        P.due("one", P.house.peak(), 3);
        P.due("can't be", P.house.match(2, 9), -1);
        P.due("it stays", P.house.peak(), 3);
        P.grammar("a=a;");
        P.grammar("a='q';");
        P.subject("");
        P.due("it stays", P.house.peak(), 3);
    }

    /** "(The PROCESSOR stays as it is then.)" */
    private static void processorStays() {
        house("a={.}.;", "xy");
        P.due("match", P.house.match(0, 9), 2);
        P.due("the IMAGE", P.house.count(7), P.house.count(3));
        P.due("eip is at END's HLT", P.house.get(9), 65536 + P.house.program(1, 3) + 2);
        P.due("STOP", P.house.get(10), 1);
        int[][] want = {{0, 2}, {3, 2}, {4, 0}, {5, 7}, {6, 12288}, {7, 28688}};
        for (int[] pair : want) {
            P.due("get " + pair[0], P.house.get(pair[0]), pair[1]);
        }
        P.due("the first EVENT in DATA", P.house.load(28672), 0);
        P.due("the second EVENT in DATA", P.house.load(28680), 1);
        P.due("its place", P.house.load(28684), 1);
        P.due("the return in DATA", P.house.load(12288), 96);
        P.due("that is one", P.house.load(12292), -1);
        P.due("the ebp it tells", P.house.load(12300), 9);
        String before = Whole.text(P.house);
        P.due("can't be", P.house.match(-1, 9), -1);
        P.due("all behind it", Whole.text(P.house), before);
    }

    /** What has been ARMED is the PROCESSOR's own: a GRAMMAR or a SUBJECT that comes behind it changes none of it. */
    private static void armedStays() {
        house("a={[xy]}*;", "xyx");
        P.due("arm", P.house.arm(1, 9), true);
        P.due("grammar", P.grammar("b='q'/[rs]*;"), 1);
        P.subject("rrrrr");
        P.due("run", P.house.run(100000) > 0, true);
        P.due("HLT", P.house.get(10), 1);
        P.due("what the GRAMMAR that was has taken", P.house.get(0), 3);
        P.due("of the SUBJECT that was", P.house.load(0), 0x787978);
        P.due("no match()", P.house.event(0, 0), -1);
        P.due("match of the new ones", P.house.match(1, 9), 4);
        P.due("arm", P.house.arm(0, 9), true);
        P.due("grammar with a FAULT", P.grammar("b=b;"), -1);
        P.due("run", P.house.run(100000) > 0, true);
        P.due("the GRAMMAR that stayed", P.house.get(0), 5);
        P.due("match of the GRAMMAR that stayed", P.house.match(2, 9), 3);
    }

    private static void allBytes() {
        byte[] subject = new byte[256];
        for (int b = 0; b < 256; b++) {
            subject[b] = (byte) b;
        }
        String[] texts = {"a=.*;", "a=[\\x00-\\xff]*;", "a=[^]*!.;", "a=([\\x00-\\x7f]/[\\x80-\\xff])+;", "a=(!'\\xff'.)*.;"};
        for (String text : texts) {
            P.fresh();
            P.grammar(text);
            P.tape(subject);
            P.house.subject();
            P.due(text, P.house.match(0, 9), 256);
        }
        for (int b = 0; b < 256; b++) {
            if (b % 32 == 0) {
                P.fresh();
                P.tape(subject);
                P.house.subject();
            }
            P.grammar(String.format("a='\\x%02x'[^\\x%02x]*;", b, (b + 5) % 256));
            P.due("from byte " + b, P.house.match(b, 9), b + 5 < 256 ? 5 : 256 - b);
            P.due("from another", P.house.match((b + 1) % 256, 9), -2);
        }
    }

    /** "if there is one": at the SUBJECT's end there is no next byte, whatever stands in DATA behind it. */
    private static void endOfSubject() {
        String[] texts = {"a='\\x00';", "a=[\\x00];", "a=[\\x00x];", "a=.;", "a='\\x00'+;", "a=&.;", "a=&'\\x00';", "a='\\x00''\\x00';"};
        for (String text : texts) {
            house(text, "");
            P.due(text + " on nothing", P.house.match(0, 9), -2);
            house(text, "xxx");
            P.due(text + " at the end", P.house.match(3, 9), -2);
        }
        String[] others = {"a='\\x00'*;", "a=[\\x00x]*;", "a=.*;", "a=.?;", "a='\\x00'?;", "a=[\\x00x]?;", "a=!.;", "a=!'\\x00';", "a=![\\x00x];", "a=;", "a=''^9;"};
        for (String text : others) {
            house(text, "");
            P.due(text + " on nothing", P.house.match(0, 9), 0);
            house(text, "xxx");
            P.due(text + " at the end", P.house.match(3, 9), 0);
        }
    }
}
