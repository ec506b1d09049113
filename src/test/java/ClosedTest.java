/**
 * Parts V and VI together: code that passes the CHECK, run from its beginning with any registers and FLAGS, stays in
 * the closed field, so it never STOPS with MEMORY, FETCH or UNKNOWN; and code does so that does not pass.
 */
public final class ClosedTest {
    private static final Probe P = new Probe();
    private static final Codes CODES = new Codes(77);
    private static final Peg.Dice DICE = new Peg.Dice(78);
    private static final int MEMORY = 2;
    private static final int UNKNOWN = 4;
    /** How many runs ended with each STOP, of codes that pass and of those that do not. */
    private static final int[] PASSED = new int[6];
    private static final int[] REFUSED = new int[6];

    public static void main(String[] args) {
        for (int round = 0; round < 20000; round++) {
            tryCode(CODES.code());
        }
        P.due("runs of codes that pass were seen", PASSED[0] + PASSED[1] > 5000, true);
        for (int stop = MEMORY; stop <= UNKNOWN; stop++) {
            P.due("codes that pass and STOP with " + stop, PASSED[stop], 0);
            P.due("codes that are refused do STOP with " + stop, REFUSED[stop] > 20, true);
        }
        P.finish();
    }

    private static void tryCode(byte[] code) {
        P.fresh();
        P.tape(code);
        P.house.place();
        int[] stops = P.house.check(0) == 0 ? PASSED : REFUSED;
        for (int turn = 0; turn < 3; turn++) {
            for (int r = 0; r < 8; r++) {
                P.house.put(r, any());
            }
            P.house.put(8, any());
            P.house.begin(0);
            P.house.run(200);
            stops[P.house.get(10)]++;
        }
    }

    private static int any() {
        switch (DICE.below(4)) {
            case 0:
                return DICE.below(300);
            case 1:
                return 131072 + DICE.below(65536);
            case 2:
                return 65536 + DICE.below(256);
            default:
                return DICE.below(Integer.MAX_VALUE) * 2 + DICE.below(2);
        }
    }
}
