import java.util.Arrays;

/** Codes of a processor that come by dice, near to what the CHECK takes and refuses. */
final class Codes {
    private final Peg.Dice dice;

    Codes(long seed) {
        dice = new Peg.Dice(seed);
    }

    /** Bytes that are mostly such as stand in instructions. */
    byte[] noise() {
        int[] likely = {0x81, 0x83, 0x89, 0x8B, 0x0F, 0xEB, 0xE0, 0xC0, 0x90, 0x00, 0x02, 0x80, 0x05, 0xC1, 0xF7, 0x40};
        byte[] code = new byte[dice.below(40)];
        for (int i = 0; i < code.length; i++) {
            code[i] = (byte) (dice.below(3) == 0 ? dice.below(256) : likely[dice.below(likely.length)]);
        }
        return code;
    }

    private static String number(long v) {
        return String.format("%02x%02x%02x%02x", v & 255, v >> 8 & 255, v >> 16 & 255, v >> 24 & 255);
    }

    private int near(int... values) {
        return values[dice.below(values.length)] + (dice.below(4) == 0 ? dice.below(3) - 1 : 0);
    }

    /** Pieces that are mostly fine, one behind the other; now and then it is cut. */
    byte[] code() {
        StringBuilder hex = new StringBuilder();
        int pieces = 1 + dice.below(12);
        for (int k = 0; k < pieces; k++) {
            hex.append(piece());
            if (dice.below(3) == 0) {
                int room = 32 - hex.length() / 2 % 32;
                hex.append("90".repeat(dice.below(2) == 0 ? room % 32 : dice.below(4)));
            }
        }
        byte[] code = Probe.bytes(hex.toString());
        return dice.below(6) == 0 && code.length > 0 ? Arrays.copyOf(code, dice.below(code.length)) : code;
    }

    private String piece() {
        int r = dice.below(3) == 0 ? dice.below(8) : 0;
        switch (dice.below(12)) {
            case 0, 1:
                return String.format("81%02x", 0xE0 + r) + number(near(0, 65535, 65532, 4096)) + use(r);
            case 2:
                return String.format("83%02x%02x", 0xE0 + r, dice.below(9) == 0 ? 0x80 : dice.below(128)) + writer() + use(r);
            case 3:
                return go(r);
            case 4:
                return String.format("%02x%02x", dice.below(2) == 0 ? 0xEB : 0x70 + dice.below(16), dice.below(24) - 12 & 255);
            case 5:
                return (dice.below(2) == 0 ? "e9" : String.format("0f%02x", 0x80 + dice.below(16))) + number(dice.below(60) - 30);
            case 6:
                return "8b05" + number(near(131072, 196604, 150000));
            case 7:
                return "8a05" + number(near(131072, 196607, 150000));
            case 8:
                return dice.below(8) == 0 ? new String[] {"50", "c3", "6a00", "ffd0", "ff20", "e800000000", "cc", "0f0b"}[dice.below(8)] : "90";
            default:
                return writer();
        }
    }

    private String use(int r) {
        int b = dice.below(8) == 0 ? dice.below(8) : r;
        String[] opcodes = {"8b", "89", "8a", "88", "0fb6", "01", "3b", "0f44", "0f94", "87", "85", "8d"};
        int other = dice.below(8);
        String opcode = opcodes[dice.below(opcodes.length)];
        int second = 0x80 + (opcode.equals("0f94") ? 0 : 8 * other) + b;
        String third = b == 4 ? "24" : "";
        return opcode + String.format("%02x", second) + third + number(near(131072, 131072, 131076, 192000, 196604, 196607));
    }

    private String go(int r) {
        int s = dice.below(9) == 0 ? dice.below(8) : r;
        return String.format("81%02x", 0xE0 + r) + number(dice.below(6) == 0 ? near(65504, 32) : 65504) + (dice.below(9) == 0 ? "90" : "")
            + String.format("81%02x", 0xC0 + r) + number(dice.below(6) == 0 ? near(65536) : 65536) + String.format("ff%02x", 0xE0 + s);
    }

    /** An instruction of registers alone. */
    private String writer() {
        int second = 0xC0 + dice.below(64);
        String m = String.format("%02x", second);
        String any = String.format("%02x", dice.below(8));
        String[] all = {"01" + m, "03" + m, "39" + m, "3b" + m, "81" + m + number(7), "83" + m + any, "85" + m, "87" + m, "88" + m, "89" + m, "8a" + m, "8b" + m,
            String.format("%02x", 0x40 + dice.below(16)), "99", "90", "c1e0" + any, "d1" + m, "d3" + m, "f7" + m, "f7" + m + number(5), "0faf" + m, "0fb6" + m,
            "0fbe" + m, String.format("0f%02x", 0x40 + dice.below(16)) + m, String.format("0f%02xc%x", 0x90 + dice.below(16), dice.below(8)),
            String.format("0f%02x", 0xC8 + dice.below(8)), "c6c" + any.charAt(1) + "05", "c7c" + any.charAt(1) + number(9),
            String.format("%02x", 0xB8 + dice.below(8)) + number(3), "8d00", "0fa3" + m, "ff" + m};
        return all[dice.below(all.length)];
    }
}
