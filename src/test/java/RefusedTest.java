import java.util.ArrayList;
import java.util.List;

/**
 * "A call that is refused changes nothing": each call that can be refused, in houses that hold much, with what
 * it tells, and with all that can be asked of the house before and behind it. Calls that only ask are here, too.
 */
public final class RefusedTest {
    private static final Probe P = new Probe();
    private static final int LEAST = Integer.MIN_VALUE;
    private static final int MOST = Integer.MAX_VALUE;

    /** A call by its name and numbers; what it tells. */
    private record Call(String name, int[] numbers, int told) {
        @Override
        public String toString() {
            return name + java.util.Arrays.toString(numbers);
        }
    }

    private static final List<Call> CALLS = new ArrayList<>();

    public static void main(String[] args) {
        listCalls();
        for (Call call : CALLS) {
            refusedInFull(call);
            refusedWithoutGrammar(call);
        }
        fullTape();
        nothingToArm();
        grammarsThatFault();
        stopsThatStay();
        P.finish();
    }

    private static void add(int told, String name, int[]... rows) {
        for (int[] row : rows) {
            CALLS.add(new Call(name, row, told));
        }
    }

    private static int[] row(int... numbers) {
        return numbers;
    }

    /** The tape has 12 bytes, the SUBJECT 3, the GRAMMAR 2 RULES, 13 instructions and 2 SETS. */
    private static void listCalls() {
        add(-1, "end", row(-1), row(13), row(4000), row(4001), row(LEAST), row(MOST));
        add(0, "arm", row(-1, 5), row(4, 5), row(0, 0), row(0, -1), row(3, 1001), row(LEAST, 5), row(MOST, 5), row(0, LEAST), row(0, MOST));
        add(-1, "match", row(-1, 5), row(4, 5), row(0, 0), row(0, -1), row(3, 1001), row(LEAST, 5), row(MOST, 5), row(0, LEAST), row(0, MOST));
        add(0, "begin", row(-1), row(65536), row(131071), row(LEAST), row(MOST));
        add(-1, "run", row(-1), row(100001), row(LEAST), row(MOST));
        add(0, "put", row(-1, 7), row(9, 7), row(10, 0), row(11, 7), row(LEAST, 7), row(MOST, 7));
        add(0, "store", row(-1, 7), row(-4, 7), row(65533, 7), row(65534, 7), row(65535, 7), row(65536, 7), row(131072, 7), row(LEAST, 7), row(MOST, 7));
        add(-1, "fault", row(-1), row(2), row(LEAST), row(MOST));
        add(-1, "count", row(-1), row(8), row(LEAST), row(MOST));
        add(-1, "rule", row(-1, 0), row(2, 0), row(60, 3), row(0, -1), row(0, 12), row(1, LEAST), row(1, MOST), row(LEAST, 0), row(MOST, 0));
        add(-1, "program", row(-1, 0), row(13, 0), row(2000, 0), row(0, -1), row(0, 4), row(LEAST, 0), row(MOST, 3), row(0, LEAST), row(0, MOST));
        add(0, "set", row(-1, 0), row(2, 0), row(128, 0), row(0, -1), row(0, 8), row(LEAST, 0), row(MOST, 0), row(0, LEAST), row(0, MOST));
        add(-1, "image", row(-1), row(61440), row(LEAST), row(MOST));
        add(-1, "event", row(-1, 0), row(4, 0), row(1000, 2), row(0, -1), row(0, 3), row(LEAST, 0), row(MOST, 0), row(0, LEAST), row(0, MOST));
        add(-1, "check", row(-1), row(2), row(LEAST), row(MOST));
        add(0, "get", row(-1), row(11), row(LEAST), row(MOST));
        add(0, "load", row(-1), row(-4), row(65533), row(65536), row(131072), row(LEAST), row(MOST));
    }

    private static int perform(MatchHouse house, Call call) {
        int a = call.numbers[0];
        int b = call.numbers.length > 1 ? call.numbers[1] : 0;
        return switch (call.name) {
            case "end" -> house.end(a);
            case "arm" -> house.arm(a, b) ? 1 : 0;
            case "match" -> house.match(a, b);
            case "begin" -> house.begin(a) ? 1 : 0;
            case "run" -> house.run(a);
            case "put" -> house.put(a, b) ? 1 : 0;
            case "store" -> house.store(a, b) ? 1 : 0;
            case "fault" -> house.fault(a);
            case "count" -> house.count(a);
            case "rule" -> house.rule(a, b);
            case "program" -> house.program(a, b);
            case "set" -> house.set(a, b);
            case "image" -> house.image(a);
            case "event" -> house.event(a, b);
            case "check" -> house.check(a);
            case "get" -> house.get(a);
            default -> house.load(a);
        };
    }

    /** A GRAMMAR, a SUBJECT, a match with EVENTS, a FAULT, a code with a STOP, registers, FLAGS, DATA, a tape. */
    private static void fill() {
        P.fresh();
        P.due("grammar", P.grammar("a = {b} [yz]*; b = 'x' {[0-9]}?;"), 2);
        P.subject("x1z");
        P.due("match", P.house.match(0, 20), 3);
        P.due("grammar", P.grammar("c = 'x' / 'y';;"), -1);
        P.code("40 40 83 e0 7f 8b 00");
        P.house.run(9);
        P.house.put(8, -1);
        P.house.put(7, -7);
        P.house.store(65532, 0x01020304);
        P.house.store(40000, -5);
        P.tape("x=1;y=22;zzz");
        P.due("instructions", P.house.count(1), 13);
        P.due("SETS", P.house.count(2), 2);
        P.due("STOP", P.house.get(10), 2);
    }

    /** What the tape has is seen when it has become the SUBJECT, and that has been ARMED. */
    private static void dueTape(String what, int first, int middle, int last) {
        P.due("the tape behind " + what, P.house.subject(), 12);
        P.due("arm behind " + what, P.house.arm(0, 1), true);
        P.due("the tape's bytes behind " + what, P.house.load(0), first);
        P.due("the tape's bytes behind " + what, P.house.load(4), middle);
        P.due("the tape's bytes behind " + what, P.house.load(8), last);
        P.due("behind the tape's bytes behind " + what, P.house.load(12), 0);
    }

    private static void refusedInFull(Call call) {
        fill();
        String before = Whole.text(P.house);
        P.due(call.toString(), perform(P.house, call), call.told);
        P.due("all behind " + call, Whole.text(P.house), before);
        dueTape(call.toString(), 0x3B313D78, 0x32323D79, 0x7A7A7A3B);
    }

    /** What is refused with much in the house is refused in a new one. */
    private static void refusedWithoutGrammar(Call call) {
        P.fresh();
        String before = Whole.text(P.house);
        P.due("in a new house " + call, perform(P.house, call), call.told);
        P.due("all of a new house behind " + call, Whole.text(P.house), before);
    }

    private static void fullTape() {
        for (int length = 3978; length <= 3984; length++) {
            P.fresh();
            P.grammar("a = .*;");
            byte[] bytes = new byte[4000];
            bytes[0] = 1;
            bytes[length - 1] = 9;
            P.tape(bytes);
            P.house.end(length);
            boolean taken = length <= 3980;
            P.due("feed behind " + length, P.house.feed(0x01020304, 5, 6, 7, 0x08090A0B), taken ? length + 20 : -1);
            P.due("count 6", P.house.count(6), taken ? length + 20 : length);
            P.due("subject", P.house.subject(), taken ? length + 20 : length);
            P.due("arm", P.house.arm(0, 1), true);
            P.due("the first bytes", P.house.load(0), 1);
            P.due("the last byte that was", P.house.load(length - 1) & 255, 9);
            P.due("what came behind", P.house.load(length), taken ? 0x04030201 : 0);
            P.due("its end", P.house.load(length + 16), taken ? 0x0B0A0908 : 0);
        }
    }

    private static void nothingToArm() {
        P.fresh();
        P.subject("xyz");
        P.code("40 40");
        P.house.run(1);
        String before = Whole.text(P.house);
        for (int place = 0; place <= 3; place++) {
            P.due("arm without a GRAMMAR", P.house.arm(place, 5), false);
            P.due("match without a GRAMMAR", P.house.match(place, 5), -1);
        }
        P.due("all behind them", Whole.text(P.house), before);
    }

    /** A grammar() with a FAULT empties the tape and tells the FAULT; all else is as it was. */
    private static void grammarsThatFault() {
        String[] texts = {"", "a", "a = 'x'; a = 'y';", "a = q;", "a = a;", "a = ''*;", "a = ('b'^9^9^9)^9;"};
        int[][] faults = {{1, 0}, {1, 1}, {2, 9}, {2, 4}, {3, 0}, {4, 6}, {5, 18}};
        for (int i = 0; i < texts.length; i++) {
            fill();
            P.due("grammar", P.grammar("c = q;"), -1);
            int[] before = Whole.of(P.house);
            P.due("grammar " + texts[i], P.grammar(texts[i]), -1);
            int[] behind = Whole.of(P.house);
            P.due("kind", P.house.fault(0), faults[i][0]);
            P.due("place", P.house.fault(1), faults[i][1]);
            P.due("the tape", P.house.count(6), 0);
            for (int k = 0; k < before.length; k++) {
                boolean ofFault = k == 8 || k == 10;
                P.due("answer " + k + " behind " + texts[i], ofFault ? 0 : behind[k], ofFault ? 0 : before[k]);
            }
        }
    }

    /** "none when there is a STOP": a run() then is no call that is refused, but makes nothing. */
    private static void stopsThatStay() {
        String[] codes = {"f4", "8b 00", "e9 00 00 ff ff", "cc", "f7 f1"};
        for (int k = 0; k < codes.length; k++) {
            P.fresh();
            P.code(codes[k]);
            P.house.run(2);
            P.due("STOP of " + codes[k], P.house.get(10), k + 1);
            String before = Whole.text(P.house);
            for (int n : new int[] {0, 1, 100000}) {
                P.due("run " + n + " at a STOP", P.house.run(n), 0);
            }
            P.due("run -1 at a STOP", P.house.run(-1), -1);
            P.due("run 100001 at a STOP", P.house.run(100001), -1);
            P.due("all behind them", Whole.text(P.house), before);
        }
    }
}
