/** Promise 17 on many codes: the CHECK is that of a second reading. */
public final class InspectorTest {
    private static final Probe P = new Probe();
    private static final int[] REASONS = new int[7];
    private static final Peg.Dice DICE = new Peg.Dice(41);
    private static int left;

    public static void main(String[] args) {
        for (int round = 0; round < 40000; round++) {
            compare(round % 8 == 0 ? noise() : code());
        }
        for (int reason = 0; reason < REASONS.length; reason++) {
            P.due("codes with reason " + reason + " were seen", REASONS[reason] > 300, true);
        }
        P.finish();
    }

    private static void compare(byte[] code) {
        if (left < code.length / 20 + 8) {
            P.fresh();
            left = 480;
        }
        left -= code.length / 20 + 8;
        P.tape(code);
        P.house.place();
        Inspector due = new Inspector(code);
        StringBuilder text = new StringBuilder();
        if (P.house.check(0) != due.reason || P.house.check(1) != due.place) {
            for (byte b : code) {
                text.append(String.format("%02x ", b));
            }
        }
        P.due("reason of " + text, P.house.check(0), due.reason);
        P.due("place of " + text, P.house.check(1), due.place);
        REASONS[due.reason]++;
    }

    /** Bytes that are mostly such as stand in instructions. */
    private static byte[] noise() {
        int[] likely = {0x81, 0x83, 0x89, 0x8B, 0x0F, 0xEB, 0xE0, 0xC0, 0x90, 0x00, 0x02, 0x80, 0x05, 0xC1, 0xF7, 0x40};
        byte[] code = new byte[DICE.below(40)];
        for (int i = 0; i < code.length; i++) {
            code[i] = (byte) (DICE.below(3) == 0 ? DICE.below(256) : likely[DICE.below(likely.length)]);
        }
        return code;
    }

    private static String number(long v) {
        return String.format("%02x%02x%02x%02x", v & 255, v >> 8 & 255, v >> 16 & 255, v >> 24 & 255);
    }

    private static int near(int... values) {
        return values[DICE.below(values.length)] + (DICE.below(4) == 0 ? DICE.below(3) - 1 : 0);
    }

    /** Pieces that are mostly fine, one behind the other; now and then it is cut. */
    private static byte[] code() {
        StringBuilder hex = new StringBuilder();
        int pieces = 1 + DICE.below(12);
        for (int k = 0; k < pieces; k++) {
            hex.append(piece());
            if (DICE.below(3) == 0) {
                int room = 32 - hex.length() / 2 % 32;
                hex.append("90".repeat(DICE.below(2) == 0 ? room % 32 : DICE.below(4)));
            }
        }
        byte[] code = Probe.bytes(hex.toString());
        return DICE.below(6) == 0 && code.length > 0 ? java.util.Arrays.copyOf(code, DICE.below(code.length)) : code;
    }

    private static String piece() {
        int r = DICE.below(3) == 0 ? DICE.below(8) : 0;
        switch (DICE.below(12)) {
            case 0, 1:
                return String.format("81%02x", 0xE0 + r) + number(near(0, 65535, 65532, 4096)) + use(r);
            case 2:
                return String.format("83%02x%02x", 0xE0 + r, DICE.below(9) == 0 ? 0x80 : DICE.below(128)) + writer() + use(r);
            case 3:
                return go(r);
            case 4:
                return String.format("%02x%02x", DICE.below(2) == 0 ? 0xEB : 0x70 + DICE.below(16), DICE.below(24) - 12 & 255);
            case 5:
                return (DICE.below(2) == 0 ? "e9" : String.format("0f%02x", 0x80 + DICE.below(16))) + number(DICE.below(60) - 30);
            case 6:
                return "8b05" + number(near(131072, 196604, 150000));
            case 7:
                return "8a05" + number(near(131072, 196607, 150000));
            case 8:
                return DICE.below(8) == 0 ? new String[] {"50", "c3", "6a00", "ffd0", "ff20", "e800000000", "cc", "0f0b"}[DICE.below(8)] : "90";
            default:
                return writer();
        }
    }

    private static String use(int r) {
        int b = DICE.below(8) == 0 ? DICE.below(8) : r;
        String[] opcodes = {"8b", "89", "8a", "88", "0fb6", "01", "3b", "0f44", "0f94", "87", "85", "8d"};
        int other = DICE.below(8);
        String opcode = opcodes[DICE.below(opcodes.length)];
        int second = 0x80 + (opcode.equals("0f94") ? 0 : 8 * other) + b;
        String third = b == 4 ? "24" : "";
        return opcode + String.format("%02x", second) + third + number(near(131072, 131072, 131076, 192000, 196604, 196607));
    }

    private static String go(int r) {
        int s = DICE.below(9) == 0 ? DICE.below(8) : r;
        return String.format("81%02x", 0xE0 + r) + number(DICE.below(6) == 0 ? near(65504, 32) : 65504) + (DICE.below(9) == 0 ? "90" : "")
            + String.format("81%02x", 0xC0 + r) + number(DICE.below(6) == 0 ? near(65536) : 65536) + String.format("ff%02x", 0xE0 + s);
    }

    /** An instruction of registers alone. */
    private static String writer() {
        int second = 0xC0 + DICE.below(64);
        String m = String.format("%02x", second);
        String any = String.format("%02x", DICE.below(8));
        String[] all = {"01" + m, "03" + m, "39" + m, "3b" + m, "81" + m + number(7), "83" + m + any, "85" + m, "87" + m, "88" + m, "89" + m, "8a" + m, "8b" + m,
            String.format("%02x", 0x40 + DICE.below(16)), "99", "90", "c1e0" + any, "d1" + m, "d3" + m, "f7" + m, "f7" + m + number(5), "0faf" + m, "0fb6" + m,
            "0fbe" + m, String.format("0f%02x", 0x40 + DICE.below(16)) + m, String.format("0f%02xc%x", 0x90 + DICE.below(16), DICE.below(8)),
            String.format("0f%02x", 0xC8 + DICE.below(8)), "c6c" + any.charAt(1) + "05", "c7c" + any.charAt(1) + number(9),
            String.format("%02x", 0xB8 + DICE.below(8)) + number(3), "8d00", "0fa3" + m, "ff" + m};
        return all[DICE.below(all.length)];
    }
}
