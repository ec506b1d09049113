/**
 * Edges of Part V: which bytes are an instruction, and how many they are. Each first byte (and each behind 0F) with
 * each second byte, and with third bytes, as far as they count, against a table of the document's list.
 */
public final class DecodeEdgeTest {
    private static final Probe P = new Probe();
    private static final int[] THIRDS = {0x00, 0x04, 0x05, 0x20, 0x24, 0x25, 0x45, 0x60, 0x65, 0xA5, 0xE4, 0xE5, 0xFF};
    private static int left;

    public static void main(String[] args) {
        int known = 0;
        for (int opcode = 0; opcode < 512; opcode++) {
            known += any(opcode) ? 1 : 0;
            if (opcode != 0x0F) {
                all(opcode);
            }
        }
        P.due("first bytes that are known, those behind 0F too", known, 157);
        behindTheImage();
        P.finish();
    }

    private static boolean any(int opcode) {
        for (int second = 0; second < 256; second++) {
            if (Forms.size(opcode, second, 0) > 0) {
                return true;
            }
        }
        return false;
    }

    private static void all(int opcode) {
        if (Forms.plainSize(opcode) > 0) {
            one(opcode, 0x90, 0x90);
            return;
        }
        for (int second = 0; second < 256; second++) {
            if (second % 8 == 4 && second < 192) {
                for (int third : THIRDS) {
                    one(opcode, second, third);
                }
            } else {
                one(opcode, second, 0x90);
            }
        }
    }

    /** Twenty bytes: a jmp to so many bytes behind itself, the instruction, nops. */
    private static void place(int way, int opcode, int second, int third) {
        if (left == 0) {
            P.fresh();
            left = 60;
        }
        left--;
        boolean isLong = opcode >= 256;
        int head = isLong ? 0x0F << 8 | opcode - 256 : opcode << 8 | second;
        int rest = isLong ? second << 24 | third << 16 : third << 24 | 0x900000;
        P.house.feed(0xEB << 24 | (way & 255) << 16 | head, rest | 0x9090, 0x90909090, 0x90909090, 0x90909090);
        P.house.place();
    }

    private static void one(int opcode, int second, int third) {
        int size = Forms.size(opcode, second, third);
        String what = String.format("%x %02x %02x", opcode, second, third);
        if (size < 0) {
            place(-2, opcode, second, third);
            P.due("reason of " + what, P.house.check(0), 1);
            P.due("place of " + what, P.house.check(1), 2);
            P.house.begin(2);
            P.due("STEPS of " + what, P.house.run(2), 0);
            P.due("STOP of " + what, P.house.get(10), 4);
            return;
        }
        place(size, opcode, second, third);
        P.due("an instruction behind " + what, P.house.check(0) == 6 && P.house.check(1) == 0, false);
        P.house.begin(2);
        P.house.run(1);
        P.due("UNKNOWN " + what, P.house.get(10) == 4, false);
        if (size > 1) {
            place(size - 1, opcode, second, third);
            P.due("none within " + what, P.house.check(0), 6);
            P.due("none within " + what, P.house.check(1), 0);
        }
    }

    /** "CODE .. (bytes of the IMAGE, behind it 244)", whatever IMAGE was before. */
    private static void behindTheImage() {
        String[] codes = {"b8", "b8 01", "b8 01 02", "b8 01 02 03", "b8 01 02 03 04"};
        for (int k = 0; k < codes.length; k++) {
            P.fresh();
            P.code("11 22 33 44 55 66 77 88 99");
            P.code(codes[k]);
            P.due("run " + codes[k], P.house.run(9), 1);
            int told = 0x04030201 & (1 << 8 * k) - 1;
            int behind = k == 4 ? 0 : 0xF4F4F4F4 << 8 * k;
            P.due("eax of " + codes[k], P.house.get(0), k == 4 ? 0x04030201 : told | behind);
            P.due("HLT behind " + codes[k], P.house.get(10), 1);
            P.due("eip of " + codes[k], P.house.get(9), 65541);
        }
        P.fresh();
        P.code("40");
        for (int at : new int[] {1, 2, 31, 32, 3999, 4000, 4001, 61439, 61440, 65534, 65535}) {
            P.due("begin " + at, P.house.begin(at), true);
            P.due("run at " + at, P.house.run(1), 0);
            P.due("HLT at " + at, P.house.get(10), 1);
            P.due("eip at " + at, P.house.get(9), 65536 + at);
        }
        P.grammar("a=" + "b ".repeat(637) + ";b='x'*;");
        P.due("arm", P.house.arm(0, 9), true);
        P.due("begin with the last byte of the largest IMAGE", P.house.begin(61413), true);
        P.due("run", P.house.run(1), 0);
        P.due("its HLT", P.house.get(10), 1);
        P.due("begin five ahead of it", P.house.begin(61408), true);
        P.due("run", P.house.run(9), 1);
        P.due("what OVER tells", P.house.get(0), -2);
        P.code("40");
        for (int at : new int[] {1, 32, 64, 61408, 61413}) {
            P.due("begin " + at, P.house.begin(at), true);
            P.due("nothing of the IMAGE that was", P.house.run(9), 0);
            P.due("HLT", P.house.get(10), 1);
        }
    }
}
