import java.util.ArrayList;
import java.util.List;

/** Promises 12 (arm), 13 (match), 14 (peak) and 15 (event). */
public final class MatchTest {
    private static final Probe P = new Probe();

    public static void main(String[] args) {
        arming();
        refused();
        answers();
        peaks();
        notStopping();
        events();
        whatStays();
        againstMeaning();
        P.finish();
    }

    private static void arming() {
        P.fresh();
        P.grammar("a = [xy] {'z'};");
        P.subject("..xz");
        P.code("b801000000 f4");
        P.house.put(0, 5);
        P.house.put(4, 6);
        P.house.put(8, -1);
        P.house.store(65532, 7);
        P.house.store(4, 7);
        P.house.run(5);
        P.due("arm", P.house.arm(2, 1000), true);
        int[] want = {0, 0, 0, 2, 0, 1000, 12288, 28672, 0, 65536, 0};
        for (int what = 0; what < want.length; what++) {
            P.due("get " + what, P.house.get(what), want[what]);
        }
        P.due("the SUBJECT", P.house.load(0), 0x7A782E2E);
        P.due("behind it", P.house.load(4), 0);
        P.due("the SET", P.house.load(4096 + 12), 0x03000000);
        P.due("its other words", P.house.load(4096 + 8), 0);
        P.due("the length", P.house.load(8192), 4);
        P.due("the rest", P.house.load(65532), 0);
        P.due("the IMAGE", P.house.count(7), P.house.count(3));
        P.due("check", P.house.check(0), 0);
        P.due("steps", P.house.run(100000) > 30, true);
        P.due("HLT", P.house.get(10), 1);
        P.due("eax", P.house.get(0), 4);
        P.due("edi", P.house.get(7), 28688);
        P.due("no match yet", P.house.peak(), 0);
        P.due("no event yet", P.house.event(0, 0), -1);
        P.due("arm at the end", P.house.arm(4, 1), true);
        P.due("ebx", P.house.get(3), 4);
        P.due("ebp", P.house.get(5), 1);
        P.subject("");
        P.due("arm", P.house.arm(0, 1), true);
        P.due("nothing of a SUBJECT that was", P.house.load(0), 0);
        P.due("the length", P.house.load(8192), 0);
    }

    private static void refused() {
        P.fresh();
        P.subject("x");
        P.due("arm without a GRAMMAR", P.house.arm(0, 5), false);
        P.due("match without a GRAMMAR", P.house.match(0, 5), -1);
        P.grammar("a = q;");
        P.due("arm behind a FAULT", P.house.arm(0, 5), false);
        P.grammar("a = 'x';");
        P.code("90");
        P.house.put(0, 77);
        int[][] wrong = {{-1, 5}, {2, 5}, {0, 0}, {0, -1}, {0, 1001}, {Integer.MAX_VALUE, 5}, {0, Integer.MAX_VALUE},
            {Integer.MIN_VALUE, 5}, {0, Integer.MIN_VALUE}};
        for (int[] pair : wrong) {
            P.due("arm " + pair[0] + " " + pair[1], P.house.arm(pair[0], pair[1]), false);
            P.due("match " + pair[0] + " " + pair[1], P.house.match(pair[0], pair[1]), -1);
        }
        P.due("nothing changed", P.house.count(7), 1);
        P.due("nothing changed", P.house.get(0), 77);
        P.due("arm", P.house.arm(1, 1000), true);
        P.due("match", P.house.match(1, 1), -2);
    }

    private static void answer(String text, String subject, int place, int want) {
        P.fresh();
        P.due("grammar " + text, P.grammar(text) > 0, true);
        P.subject(subject);
        P.due("match " + text + " on " + subject, P.house.match(place, 1000), want);
        P.due("check " + text, P.house.check(0), 0);
    }

    private static void answers() {
        answer("a = ;", "", 0, 0);
        answer("a = 'x';", "", 0, -2);
        answer("a = 'x';", "xx", 1, 1);
        answer("a = 'x';", "xx", 2, -2);
        answer("a = 'Xy'i;", "xY", 0, 2);
        answer("a = .;", "\u00ff", 0, 1);
        answer("a = [^x];", "x", 0, -2);
        answer("a = [];", "x", 0, -2);
        answer("a = [\\x80-\\xff]* 'q';", "\u0080\u00ff\u00a0q", 0, 4);
        answer("a = 'ab' / 'ac' / 'a';", "ad", 0, 1);
        answer("a = 'a' / 'ab';", "ab", 0, 1);
        answer("a = 'ab'* 'a';", "abababa", 0, 7);
        answer("a = 'ab'+ 'c';", "c", 0, -2);
        answer("a = 'ab'? 'c';", "abc", 0, 3);
        answer("a = 'ab'? 'a' 'c';", "ac", 0, 2);
        answer("a = ('a' 'b'?)* 'c';", "aabac", 0, 5);
        answer("a = &'ab' 'a';", "ab", 0, 1);
        answer("a = &'ab' 'a';", "ac", 0, -2);
        answer("a = !'ab' .;", "ab", 0, -2);
        answer("a = !'ab' .;", "ac", 0, 1);
        answer("a = !!'ab' .;", "ab", 0, 1);
        answer("a = (!'z' .)* 'z';", "abcz", 0, 4);
        answer("a = 'x'^3^2;", "xxxxxx", 0, 6);
        answer("a = 'x'^3^2;", "xxxxx", 0, -2);
        answer("a = '(' a ')' a / ;", "(()())()x", 0, 8);
        answer("e = t (('+' / '-') t)*; t = [0-9]+ / '(' e ')';", "1+(22-3)+", 0, 8);
    }

    private static void peaks() {
        P.fresh();
        P.grammar("a = '(' a ')' a / ;");
        P.subject("((()))()");
        Machine machine = new Machine(P.house);
        for (int stack = 1; stack <= 12; stack++) {
            int want = machine.run("((()))()".getBytes(), 0, stack);
            P.due("match with " + stack, P.house.match(0, stack), want);
            P.due("peak with " + stack, P.house.peak(), Math.min(stack, machine.peak));
            P.due("peak again", P.house.peak(), Math.min(stack, machine.peak));
        }
        P.house.match(0, 2);
        P.due("OVER", P.house.peak(), 2);
        P.due("a match that can't be", P.house.match(0, 0), -1);
        P.due("the latest that was", P.house.peak(), 2);
        P.fresh();
        P.grammar("a = .*;");
        P.due("match", P.house.match(0, 7), 0);
        P.due("a return alone", P.house.peak(), 1);
        P.grammar("a = 'x'? {'y'}^9;");
        P.subject("yyyyyyyyy");
        P.due("match", P.house.match(0, 1000), 9);
        P.due("EVENTS count", P.house.peak(), 19);
        P.due("just enough", P.house.match(0, 19), 9);
        P.due("one less", P.house.match(0, 18), -3);
        P.due("peak", P.house.peak(), 18);
        P.grammar("a = 'y' a / ;");
        P.subject("y".repeat(4000));
        P.due("the last call needs no entry", P.house.match(0, 1), 4000);
        P.grammar("a = 'y' a 'z' / 'y';");
        P.due("deep", P.house.match(0, 1000), -3);
        P.due("deep", P.house.peak(), 1000);
    }

    private static void notStopping() {
        P.fresh();
        P.grammar("a = b !.; b = 'x' b 'y' / 'x' b 'z' / 'x' b / 'x';");
        P.subject("x".repeat(30) + "q");
        P.due("too long", P.house.match(0, 1000), -4);
        P.due("no STOP", P.house.get(10), 0);
        int least = P.house.peak();
        P.due("the least ebp", least >= 60 && least <= 64, true);
        P.due("no events", P.house.event(0, 0), -1);
        P.due("it goes on", P.house.run(100000), 100000);
        P.fresh();
        P.grammar("a = 'x'* 'q';");
        P.subject("x".repeat(4000));
        P.due("no q", P.house.match(0, 5), -2);
        P.grammar("a = (b)^9; b = &('x'* 'q' / 'x'* !'y') .;");
        P.due("more steps than there are", P.house.match(0, 9), -4);
        P.due("two returns and two choices", P.house.peak(), 4);
    }

    private static void events() {
        P.fresh();
        P.grammar("a = {'a' {'b'}} ({'c'} 'x' / {'c' {}})*;");
        P.subject("-abcc");
        P.due("match", P.house.match(1, 100), 4);
        int[][] want = {{0, 0, 1}, {1, 0, 2}, {1, 1, 3}, {0, 1, 3}, {3, 0, 3}, {4, 0, 4}, {4, 1, 4}, {3, 1, 4},
            {3, 0, 4}, {4, 0, 5}, {4, 1, 5}, {3, 1, 5}};
        for (int i = 0; i < want.length; i++) {
            for (int what = 0; what < 3; what++) {
                P.due("event " + i + " " + what, P.house.event(i, what), want[i][what]);
            }
        }
        P.due("behind", P.house.event(want.length, 0), -1);
        P.due("ahead", P.house.event(-1, 0), -1);
        P.due("most", P.house.event(Integer.MAX_VALUE, 0), -1);
        P.due("what 3", P.house.event(0, 3), -1);
        P.due("what -1", P.house.event(0, -1), -1);
        P.due("NO", P.house.match(0, 100), -2);
        P.due("event of NO", P.house.event(0, 0), -1);
        P.due("OVER", P.house.match(1, 8), -3);
        P.due("event of OVER", P.house.event(0, 0), -1);
        P.grammar("a = &{'x'} !{'y'} {};");
        P.subject("x");
        P.due("match", P.house.match(0, 100), 0);
        P.due("none of looks", P.house.event(0, 0), 2);
        P.due("closed", P.house.event(1, 1), 1);
        P.due("no more", P.house.event(2, 0), -1);
    }

    private static void whatStays() {
        P.fresh();
        P.grammar("a = {.};");
        P.subject("x");
        P.due("match", P.house.match(0, 100), 1);
        P.due("peak", P.house.peak(), 3);
        P.house.store(28672, 99);
        P.house.store(28676, 99);
        P.house.arm(0, 1);
        P.house.run(1000);
        P.grammar("a = 'q';");
        P.subject("");
        P.due("match -1", P.house.match(9, 9), -1);
        P.due("event 0", P.house.event(0, 0), 0);
        P.due("event 0", P.house.event(1, 2), 1);
        P.due("peak", P.house.peak(), 3);
        P.due("STOP", P.house.get(10), 1);
        P.due("match", P.house.match(0, 9), -2);
        P.due("eax", P.house.get(0), -1);
        P.due("ebx", P.house.get(3), -1);
        P.due("esi", P.house.get(6), 12288);
        P.due("peak", P.house.peak(), 1);
        P.due("event", P.house.event(0, 0), -1);
    }

    private static void againstMeaning() {
        Peg.Dice dice = new Peg.Dice(3);
        int fine = 0;
        for (int round = 0; round < 3000; round++) {
            Peg.Rules rules = Peg.Rules.random(dice);
            P.fresh();
            if (P.grammar(rules.text()) < 0 || P.house.count(1) > 100 || P.house.count(2) > 10) {
                continue;
            }
            fine++;
            Machine machine = new Machine(P.house);
            StringBuilder subject = new StringBuilder();
            for (int i = dice.below(9); i > 0; i--) {
                subject.append("abcABd".charAt(dice.below(6)));
            }
            P.subject(subject.toString());
            byte[] bytes = subject.toString().getBytes();
            int place = dice.below(bytes.length + 1);
            meaning(rules, bytes, place);
            for (int stack : new int[] {1, 2, 4, 8, 300}) {
                meter(rules.text() + subject, machine, bytes, place, stack);
            }
        }
        P.due("enough of them", fine > 500, true);
    }

    private static void meaning(Peg.Rules rules, byte[] subject, int place) {
        List<int[]> events = new ArrayList<>();
        int end = rules.match(subject, place, events);
        int got = P.house.match(place, 1000);
        if (end == -2 || got == -3 || got == -4) {
            return;
        }
        String what = rules.text() + " at " + place + " of " + new String(subject);
        P.due(what, got, end < 0 ? -2 : end - place);
        dueEvents(what, events);
    }

    private static void dueEvents(String what, List<int[]> events) {
        for (int i = 0; i <= Math.min(events.size(), 12); i++) {
            for (int k = 0; k < 3; k++) {
                P.due("event " + i + " of " + what, P.house.event(i, k), i < events.size() ? events.get(i)[k] : -1);
            }
        }
    }

    private static void meter(String what, Machine machine, byte[] subject, int place, int stack) {
        int want = machine.run(subject, place, stack);
        int got = P.house.match(place, stack);
        if (want != -4 && got != -4) {
            P.due("with " + stack + " " + what, got, want);
            P.due("peak with " + stack + " " + what, P.house.peak(), Math.min(stack, machine.peak));
        }
    }
}
