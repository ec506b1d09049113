/** Any calls with any arguments: none throws, all end, and the same calls have the same answers. */
public final class WildTest {
    private static final Probe P = new Probe();
    private static final int[] NUMBERS = {0, 1, -1, 2, 3, 7, 8, 9, 10, 11, 12, 20, 60, 1000, 1001, 3999, 4000, 65532, 65533,
        65535, 65536, 100000, 131072, Integer.MAX_VALUE, Integer.MIN_VALUE};
    private static final String[] TEXTS = {"a = 'x' a / ;", "a = {b}* !.; b = [x-z] {'q'}?;", "a = &('x' / 'yz') .* b; b = ;",
        "a = a;", "a = ''*;", "a = (", "a = q;", "a = ('b'^9^9^9)^9;", "xyzqxyz", "", "a = {.}^9^9 / {.};"};
    private static final String[] CODES = {"40 eb fd", "ff e0", "50 eb fd", "58 eb fd", "c3", "f7 f1 f7 f9 90 eb f9",
        "0f b6 04 08 88 04 0a 83 c1 07 eb f4", "ff 34 24 ff 14 24", "d3 c0 d3 c9 0f c8 87 0c 24 eb f5", "8d 84 c9 ff ff 01 00 89 00 eb f5",
        "e8 00 00 00 00 eb f9", "0f ff", "66"};

    public static void main(String[] args) {
        for (int seed = 0; seed < 200; seed++) {
            long[] one = calls(seed);
            long[] other = calls(seed);
            for (int i = 0; i < one.length; i++) {
                P.due("call " + i + " of run " + seed, other[i], one[i]);
            }
        }
        P.finish();
    }

    private static long[] calls(int seed) {
        Peg.Dice dice = new Peg.Dice(seed);
        Probe probe = new Probe();
        long[] answers = new long[240];
        for (int i = 0; i < answers.length; i++) {
            answers[i] = call(probe, dice);
        }
        return answers;
    }

    private static int number(Peg.Dice dice) {
        int kind = dice.below(4);
        if (kind == 0) {
            return NUMBERS[dice.below(NUMBERS.length)];
        }
        return kind == 1 ? 131072 + dice.below(65536) : dice.below(kind == 2 ? 12 : 200);
    }

    private static long call(Probe probe, Peg.Dice dice) {
        MatchHouse house = probe.house;
        int a = number(dice);
        int b = number(dice);
        switch (dice.below(30)) {
            case 0:
                return house.feed(a, b, dice.below(1 << 30), a, b);
            case 1:
                return house.end(a);
            case 2:
                return house.fault(a);
            case 3:
                return house.count(a);
            case 4:
                return house.rule(a, b);
            case 5:
                return house.program(a, b);
            case 6:
                return house.set(a, b);
            case 7:
                return house.image(a);
            case 8:
                return house.subject();
            case 9:
                return house.arm(a, b) ? 1 : 0;
            case 10:
                return house.match(a, b);
            case 11:
                return house.peak();
            case 12:
                return house.event(a, b);
            case 13:
                return house.place();
            case 14:
                return house.check(a);
            case 15:
                return house.begin(a) ? 1 : 0;
            case 16, 17, 18:
                return house.run(a);
            case 19:
                return house.get(a);
            case 20, 21:
                return house.put(dice.below(10), b) ? 1 : 0;
            case 22:
                return house.store(a, b) ? 1 : 0;
            case 23:
                return house.load(a);
            case 24:
                return house.grammar();
            case 25, 26:
                probe.tape(TEXTS[dice.below(TEXTS.length)]);
                return house.grammar();
            case 27:
                probe.tape(CODES[dice.below(CODES.length)].replace(" ", ""));
                return house.subject();
            default:
                probe.tape(Probe.bytes(CODES[dice.below(CODES.length)]));
                return house.place();
        }
    }
}
