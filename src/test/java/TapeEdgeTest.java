/** Edges of Part I and of promises 1, 2, 3, 4, 11 and 16: the tape, as long as it can be, and what it becomes. */
public final class TapeEdgeTest {
    private static final Probe P = new Probe();

    public static void main(String[] args) {
        highestByteFirst();
        behindTheTape();
        atMost4000();
        endKeepsTheFirst();
        emptyThen();
        grammarOf4000();
        subjectOf4000();
        codeOf4000();
        manyCalls();
        P.finish();
    }

    /** "Twenty bytes come behind the tape, of each number the highest first". */
    private static void highestByteFirst() {
        int[] numbers = {0x80000000, 0x00FF0001, -1, 0x7F80FF00, 0x01020304};
        P.fresh();
        P.grammar("a = ;");
        P.due("feed", P.house.feed(numbers[0], numbers[1], numbers[2], numbers[3], numbers[4]), 20);
        P.due("subject", P.house.subject(), 20);
        P.due("arm", P.house.arm(0, 1), true);
        for (int i = 0; i < 20; i++) {
            P.due("byte " + i, P.house.load(i) & 255, numbers[i / 4] >> 24 - 8 * (i % 4) & 255);
        }
        P.due("behind", P.house.load(20), 0);
    }

    private static void behindTheTape() {
        P.fresh();
        P.grammar("a = ;");
        for (int k = 0; k < 5; k++) {
            P.due("feed " + k, P.house.feed(k << 24, 0, 0, 0, k), 20 * k + 20);
        }
        P.due("end in the middle of a number", P.house.end(59), 59);
        P.due("feed behind that", P.house.feed(0x61000000, 0, 0, 0, 0x62), 79);
        P.due("subject", P.house.subject(), 79);
        P.due("arm", P.house.arm(0, 1), true);
        P.due("the first twenty", P.house.load(0), 0);
        P.due("the second twenty", P.house.load(20), 1);
        P.due("their last byte", P.house.load(39) & 255, 1);
        P.due("the last that stayed, and the next", P.house.load(58), 0x6100);
        P.due("the last", P.house.load(78), 0x62);
    }

    /** "THE TAPE has bytes, at most 4000"; "NONE when there would be more than 4000". */
    private static void atMost4000() {
        P.fresh();
        for (int k = 1; k <= 200; k++) {
            P.due("feed " + k, P.house.feed(0, 0, 0, 0, k), 20 * k);
        }
        for (int k = 0; k < 3; k++) {
            P.due("feed beyond", P.house.feed(-1, -1, -1, -1, -1), -1);
            P.due("count 6", P.house.count(6), 4000);
        }
        int[] ends = {3999, 3990, 3981};
        for (int n : ends) {
            P.due("end " + n, P.house.end(n), n);
            P.due("feed behind " + n, P.house.feed(-1, -1, -1, -1, -1), -1);
            P.due("count 6", P.house.count(6), n);
        }
        P.due("end 3980", P.house.end(3980), 3980);
        P.due("feed behind 3980", P.house.feed(-1, -1, -1, -1, -1), 4000);
        P.due("end of all", P.house.end(4000), 4000);
        P.due("end beyond", P.house.end(4001), -1);
        P.due("count 6", P.house.count(6), 4000);
    }

    /** "The tape has its first n bytes alone: n. NONE when it has not so many, or n is below 0." */
    private static void endKeepsTheFirst() {
        P.fresh();
        P.due("end 0 of a new one", P.house.end(0), 0);
        P.due("end 1 of a new one", P.house.end(1), -1);
        P.due("end -1 of a new one", P.house.end(-1), -1);
        P.house.feed(0, 0, 0, 0, 0);
        for (int n = 20; n >= 0; n--) {
            P.due("end " + n, P.house.end(n), n);
            P.due("again " + n, P.house.end(n), n);
            P.due("end one more than " + n, P.house.end(n + 1), -1);
            P.due("count 6", P.house.count(6), n);
        }
    }

    /** "The tape (empty then, in any case) becomes ..": an empty one becomes something, too. */
    private static void emptyThen() {
        String[] texts = {"a = 'x';", "a = ", "a = q;", "a = a;", "a = ''*;", "a = ('b'^9^9^9)^9;", ""};
        for (int kind = 0; kind < texts.length; kind++) {
            P.fresh();
            P.due("grammar " + texts[kind], P.grammar(texts[kind]), kind == 0 ? 1 : -1);
            P.due("tape behind " + texts[kind], P.house.count(6), 0);
            P.due("end 1 behind " + texts[kind], P.house.end(1), -1);
        }
        P.subject("abc");
        P.due("tape behind subject", P.house.count(6), 0);
        P.due("SUBJECT", P.house.count(5), 3);
        P.due("an empty SUBJECT", P.house.subject(), 0);
        P.due("SUBJECT", P.house.count(5), 0);
        P.code("90 90");
        P.due("tape behind place", P.house.count(6), 0);
        P.due("IMAGE", P.house.count(7), 2);
        P.due("an empty IMAGE", P.house.place(), 0);
        P.due("IMAGE", P.house.count(7), 0);
        P.due("an empty GRAMMAR", P.house.grammar(), -1);
        P.due("its FAULT", P.house.fault(0), 1);
        P.due("its place", P.house.fault(1), 0);
    }

    private static void grammarOf4000() {
        P.fresh();
        String text = "a = 'x'; #" + "c".repeat(3981) + "\nb = 'y';";
        P.due("bytes", text.length(), 4000);
        P.due("grammar of 4000", P.grammar(text), 2);
        P.fresh();
        P.due("without its last", P.grammar(text.substring(0, 3999)), -1);
        P.due("kind", P.house.fault(0), 1);
        P.due("place", P.house.fault(1), 3999);
        P.fresh();
        P.due("with another last", P.grammar(text.substring(0, 3999) + ")"), -1);
        P.due("kind", P.house.fault(0), 1);
        P.due("place", P.house.fault(1), 3999);
    }

    private static void subjectOf4000() {
        P.fresh();
        P.grammar("a = {'x'* 'y'} !.;");
        P.subject("x".repeat(3999) + "y");
        P.due("match to the end", P.house.match(0, 9), 4000);
        P.due("the last place", P.house.event(1, 2), 4000);
        P.due("match of the last", P.house.match(3999, 9), 1);
        P.due("match behind it", P.house.match(4000, 9), -2);
        P.due("match beyond", P.house.match(4001, 9), -1);
        P.due("its last bytes in DATA", P.house.load(3996), 0x79787878);
        P.due("behind them", P.house.load(4000), 0);
    }

    private static void codeOf4000() {
        P.fresh();
        byte[] code = new byte[4000];
        java.util.Arrays.fill(code, (byte) 0x90);
        code[3999] = 0x40;
        P.tape(code);
        P.due("place", P.house.place(), 4000);
        P.due("check", P.house.check(0), 0);
        P.due("run", P.house.run(100000), 4000);
        P.due("the last one", P.house.get(0), 1);
        P.due("the HLT behind", P.house.get(9), 65536 + 4000);
        P.due("STOP", P.house.get(10), 1);
    }

    /** "An object is used for at most 512 calls": the last of them is as good as the first; later ones end. */
    private static void manyCalls() {
        P.fresh();
        P.grammar("a = {'x'}*;");
        P.subject("xx");
        for (int call = 9; call <= 511; call++) {
            P.due("end, call " + call, P.house.end(0), 0);
        }
        P.due("the 512th", P.house.match(0, 9), 2);
        for (int call = 0; call < 2000; call++) {
            P.house.feed(call, call, call, call, call);
            P.house.match(call, call);
            P.house.run(call);
            P.house.event(call, 0);
            P.house.grammar();
        }
    }
}
