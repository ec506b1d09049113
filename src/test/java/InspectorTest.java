/** Promise 17 on many codes: the CHECK is that of a second reading. */
public final class InspectorTest {
    private static final Probe P = new Probe();
    private static final int[] REASONS = new int[7];
    private static final Codes CODES = new Codes(41);
    private static int left;

    public static void main(String[] args) {
        for (int round = 0; round < 40000; round++) {
            compare(round % 8 == 0 ? CODES.noise() : CODES.code());
        }
        for (int reason = 0; reason < REASONS.length; reason++) {
            P.due("codes with reason " + reason + " were seen", REASONS[reason] > 300, true);
        }
        P.finish();
    }

    private static void compare(byte[] code) {
        if (left < code.length / 20 + 8) {
            P.fresh();
            left = 480;
        }
        left -= code.length / 20 + 8;
        P.tape(code);
        P.house.place();
        Inspector due = new Inspector(code);
        StringBuilder text = new StringBuilder();
        if (P.house.check(0) != due.reason || P.house.check(1) != due.place) {
            for (byte b : code) {
                text.append(String.format("%02x ", b));
            }
        }
        P.due("reason of " + text, P.house.check(0), due.reason);
        P.due("place of " + text, P.house.check(1), due.place);
        REASONS[due.reason]++;
    }
}
