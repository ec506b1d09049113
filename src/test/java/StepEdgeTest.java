import java.math.BigInteger;

/**
 * Edges of Part V, promises 18 to 23: sums, products, quotients and shifts at the ends of 32 bits, told by what the
 * document says of them in numbers of more bits; DATA, CODE and the stack at their ends; STOPS, and calls' limits.
 */
public final class StepEdgeTest {
    private static final Probe P = new Probe();
    private static final int[] VALUES = {0, 1, 2, 7, 8, 15, 16, 17, 127, 128, 255, 256, 65535, 0x3FFFFFFF, 0x40000000, 0x7FFFFFF0, Integer.MAX_VALUE,
        Integer.MIN_VALUE, 0x80000001, 0xBFFFFFFF, 0xC0000000, -256, -128, -17, -16, -15, -2, -1};
    private static final int ALL = 2261;
    private static int left;

    public static void main(String[] args) {
        sums();
        singles();
        products();
        quotients();
        signedQuotients();
        singleShifts();
        manyShifts();
        bits();
        conditions();
        everyRegister();
        everyPair();
        everyByteRegister();
        everyAddress();
        addresses();
        stackEdges();
        codeEdges();
        flagBits();
        runLimits();
        stopsDoNothing();
        whatEndsAStop();
        dataEdges();
        P.finish();
    }

    private static void code(String hex) {
        P.fresh();
        P.code(hex);
        left = 480;
    }

    /** A STEP from the code's beginning, in a house that has some calls left for it. */
    private static int step(String hex, int eax, int ecx, int edx, int flags) {
        left -= 12;
        if (left < 12) {
            code(hex);
        }
        P.house.put(0, eax);
        P.house.put(1, ecx);
        P.house.put(2, edx);
        P.house.put(8, flags);
        P.house.begin(0);
        return P.house.run(1);
    }

    private static void due(String what, int eax, int edx, int flags) {
        P.due("eax of " + what, P.house.get(0), eax);
        P.due("edx of " + what, P.house.get(2), edx);
        P.due("FLAGS of " + what, P.house.get(8), flags);
    }

    private static long unsigned(int v) {
        return v & 0xFFFFFFFFL;
    }

    /** Z, S and P of a result. */
    private static int ofResult(int result) {
        int ones = 0;
        for (int k = 0; k < 8; k++) {
            ones += result >> k & 1;
        }
        return (result == 0 ? 64 : 0) | (result < 0 ? 128 : 0) | (ones % 2 == 0 ? 4 : 0);
    }

    private static int ofSum(int a, int b, int carry) {
        int result = (int) (unsigned(a) + unsigned(b) + carry);
        boolean out = unsigned(a) + unsigned(b) + carry > 0xFFFFFFFFL;
        boolean half = (a & 15) + (b & 15) + carry > 15;
        long signed = (long) a + b + carry;
        return ofResult(result) | (out ? 1 : 0) | (half ? 16 : 0) | (signed != (int) signed ? 2048 : 0);
    }

    private static int ofRest(int a, int b, int borrow) {
        int result = (int) (unsigned(a) - unsigned(b) - borrow);
        boolean out = unsigned(a) < unsigned(b) + borrow;
        boolean half = (a & 15) < (b & 15) + borrow;
        long signed = (long) a - b - borrow;
        return ofResult(result) | (out ? 1 : 0) | (half ? 16 : 0) | (signed != (int) signed ? 2048 : 0);
    }

    /** add, or, adc, sbb, and, sub, xor, cmp of eax and ecx, with C and without, all other FLAGS up or down ahead. */
    private static void sums() {
        for (int n = 0; n < 8; n++) {
            String hex = String.format("%02x c8", 8 * n + 1);
            code(hex);
            for (int a : VALUES) {
                for (int b : VALUES) {
                    for (int carry = 0; carry < 2; carry++) {
                        int ahead = carry == 1 ? ALL : 0;
                        P.due("STEPS", step(hex, a, b, 5, ahead), 1);
                        String what = hex + " " + a + " " + b + " " + carry;
                        switch (n) {
                            case 0 -> due(what, a + b, 5, ofSum(a, b, 0));
                            case 1 -> due(what, a | b, 5, ofResult(a | b));
                            case 2 -> due(what, a + b + carry, 5, ofSum(a, b, carry));
                            case 3 -> due(what, a - b - carry, 5, ofRest(a, b, carry));
                            case 4 -> due(what, a & b, 5, ofResult(a & b));
                            case 5 -> due(what, a - b, 5, ofRest(a, b, 0));
                            case 6 -> due(what, a ^ b, 5, ofResult(a ^ b));
                            default -> due(what, a, 5, ofRest(a, b, 0));
                        }
                    }
                }
            }
        }
    }

    /** inc, dec (C stays), neg, not, test, the sign of eax, its bytes turned round. */
    private static void singles() {
        String[] codes = {"40", "48", "ff c0", "ff c8", "f7 d8", "f7 d0", "85 c8", "f7 c0 ff ff 00 80", "99", "0f c8"};
        for (int k = 0; k < codes.length; k++) {
            code(codes[k]);
            for (int a : VALUES) {
                for (int ahead : new int[] {0, 1, ALL - 1, ALL}) {
                    P.due("STEPS", step(codes[k], a, 0x8000FFFF, 5, ahead), 1);
                    String what = codes[k] + " " + a + " " + ahead;
                    int c = ahead & 1;
                    switch (k) {
                        case 0, 2 -> due(what, a + 1, 5, ofSum(a, 1, 0) & ~1 | c);
                        case 1, 3 -> due(what, a - 1, 5, ofRest(a, 1, 0) & ~1 | c);
                        case 4 -> due(what, -a, 5, ofRest(0, a, 0));
                        case 5 -> due(what, ~a, 5, ahead);
                        case 6, 7 -> due(what, a, 5, ofResult(a & 0x8000FFFF));
                        case 8 -> due(what, a, a < 0 ? -1 : 0, ahead);
                        default -> due(what, Integer.reverseBytes(a), 5, ahead);
                    }
                }
            }
        }
    }

    private static void products() {
        String[] codes = {"f7 e1", "f7 e9", "0f af c1"};
        for (int k = 0; k < codes.length; k++) {
            code(codes[k]);
            for (int a : VALUES) {
                for (int b : VALUES) {
                    for (int ahead : new int[] {0, ALL}) {
                        P.due("STEPS", step(codes[k], a, b, 5, ahead), 1);
                        boolean withSign = k > 0;
                        BigInteger product = BigInteger.valueOf(withSign ? a : unsigned(a)).multiply(BigInteger.valueOf(withSign ? b : unsigned(b)));
                        int high = product.shiftRight(32).intValue();
                        boolean beyond = withSign ? product.bitLength() > 31 : high != 0;
                        int flags = ahead & ~2049 | (beyond ? 2049 : 0);
                        due(codes[k] + " " + a + " " + b, product.intValue(), k == 2 ? 5 : high, flags);
                    }
                }
            }
        }
    }

    /** div: "by 0, or the quotient is beyond 32 bits". */
    private static void quotients() {
        String hex = "f7 f1";
        code(hex);
        for (int high : VALUES) {
            for (int by : VALUES) {
                for (int low : new int[] {0, 1, Integer.MAX_VALUE, Integer.MIN_VALUE, -2, -1}) {
                    BigInteger whole = BigInteger.valueOf(unsigned(high)).shiftLeft(32).add(BigInteger.valueOf(unsigned(low)));
                    BigInteger divisor = BigInteger.valueOf(unsigned(by));
                    boolean fine = by != 0 && whole.divide(divisor).bitLength() <= 32;
                    divided(hex, low, by, high, fine, whole, divisor);
                }
            }
        }
        for (int by : new int[] {1, 2, 3, Integer.MAX_VALUE, Integer.MIN_VALUE, -2, -1}) {
            P.due("the most that is fine by " + by, step(hex, -1, by, by - 1, 0), 1);
            P.due("the quotient", P.house.get(0), -1);
            P.due("the rest", P.house.get(2), by - 1);
            P.due("one more by " + by, step(hex, 0, by, by, 0), 0);
            P.due("STOP", P.house.get(10), 5);
        }
    }

    private static void divided(String hex, int low, int by, int high, boolean fine, BigInteger whole, BigInteger divisor) {
        int made = step(hex, low, by, high, ALL);
        String what = hex + " " + whole + " by " + divisor;
        P.due("STEPS of " + what, made, fine ? 1 : 0);
        P.due("STOP of " + what, P.house.get(10), fine ? 0 : 5);
        P.due("eip of " + what, P.house.get(9), fine ? 65538 : 65536);
        if (fine) {
            due(what, whole.divide(divisor).intValue(), whole.remainder(divisor).intValue(), ALL);
        } else {
            due(what, low, high, ALL);
        }
    }

    private static void signedQuotients() {
        String hex = "f7 f9";
        code(hex);
        for (int high : VALUES) {
            for (int by : VALUES) {
                for (int low : new int[] {0, 1, Integer.MAX_VALUE, Integer.MIN_VALUE, -2, -1}) {
                    BigInteger whole = BigInteger.valueOf(high).shiftLeft(32).add(BigInteger.valueOf(unsigned(low)));
                    boolean fine = by != 0 && whole.divide(BigInteger.valueOf(by)).bitLength() <= 31;
                    divided(hex, low, by, high, fine, whole, BigInteger.valueOf(by));
                }
            }
        }
        long[] wholes = {0x7FFFFFFFL, 0x80000000L, -0x80000000L, -0x80000001L};
        for (int by : new int[] {1, -1, 2, -2, 1000003, -1000003, Integer.MAX_VALUE, Integer.MIN_VALUE}) {
            for (long quotient : wholes) {
                long whole = quotient * by;
                boolean fine = quotient == (int) quotient;
                P.due(quotient + " times " + by, step(hex, (int) whole, by, (int) (whole >> 32), 0), fine ? 1 : 0);
                P.due("STOP", P.house.get(10), fine ? 0 : 5);
                P.due("the quotient", P.house.get(0), fine ? (int) quotient : (int) whole);
                P.due("the rest", P.house.get(2), fine ? 0 : (int) (whole >> 32));
            }
        }
    }

    /** rol, ror, shl, shr, sar by 1. */
    private static void singleShifts() {
        for (int n : new int[] {0, 1, 4, 5, 7}) {
            String hex = String.format("d1 %02x", 0xC0 + 8 * n);
            code(hex);
            for (int a : VALUES) {
                for (int ahead : new int[] {0, ALL}) {
                    P.due("STEPS", step(hex, a, 0, 5, ahead), 1);
                    boolean top = a < 0;
                    boolean bottom = (a & 1) == 1;
                    int result = switch (n) {
                        case 0 -> a * 2 + (top ? 1 : 0);
                        case 1 -> (int) (unsigned(a) / 2 + (bottom ? 0x80000000L : 0));
                        case 4 -> a * 2;
                        case 5 -> (int) (unsigned(a) / 2);
                        default -> Math.floorDiv(a, 2);
                    };
                    boolean newTop = result < 0;
                    boolean carry = n == 0 || n == 4 ? top : bottom;
                    boolean over = switch (n) {
                        case 0 -> (result & 1) == 1 != newTop;
                        case 1 -> newTop != ((result & 0x40000000) != 0);
                        case 4 -> newTop != carry;
                        case 5 -> top;
                        default -> false;
                    };
                    int others = n < 2 ? ahead & ~2049 : ofResult(result);
                    due(hex + " " + a, result, 5, others | (carry ? 1 : 0) | (over ? 2048 : 0));
                }
            }
        }
    }

    /** "Shifts by n, the lowest five bits of the number: as n shifts by 1, FLAGS as of the last one; none for 0". */
    private static void manyShifts() {
        int[] counts = {0, 1, 2, 3, 7, 8, 15, 16, 17, 30, 31, 32, 33, 63, 64, 127, 128, 129, 224, 255};
        int[] values = {1, 3, 0x40000001, Integer.MIN_VALUE, 0x80000001, 0xA5A5A5A5, 0x12345678, -1, 0};
        for (int n : new int[] {0, 1, 4, 5, 7}) {
            String byOne = String.format("d1 %02x", 0xC0 + 8 * n).repeat(31);
            for (int count : counts) {
                String hex = String.format("c1 %02x %02x d3 %02x", 0xC0 + 8 * n, count, 0xC0 + 8 * n) + byOne;
                code(hex);
                for (int a : values) {
                    for (int ahead : new int[] {0, ALL}) {
                        String what = hex.substring(0, 14) + " " + a + " " + ahead;
                        shiftFrom(5, a, count, ahead);
                        P.due("STEPS by 1 of " + what, P.house.run(count & 31), count & 31);
                        int result = P.house.get(0);
                        int flags = P.house.get(8);
                        shiftFrom(0, a, count, ahead);
                        P.due("STEPS of " + what, P.house.run(1), 1);
                        due(what, result, 0, flags);
                        shiftFrom(3, a, 0xFFFFFF00 | count, ahead);
                        P.due("STEPS by ecx of " + what, P.house.run(1), 1);
                        due("by ecx " + what, result, 0, flags);
                        if (count % 32 == 0) {
                            due("by none " + what, a, 0, ahead);
                        }
                    }
                }
            }
        }
    }

    private static void shiftFrom(int at, int a, int ecx, int flags) {
        P.house.put(0, a);
        P.house.put(1, ecx);
        P.house.put(8, flags);
        P.house.begin(at);
    }

    /** "bt: C is the bit of M that the lowest five bits of r tell; others stay". */
    private static void bits() {
        code("0f a3 c8");
        int[] places = {0, 1, 30, 31, 32, 33, 63, 64, 255, Integer.MAX_VALUE, Integer.MIN_VALUE, -1, -32, -33};
        for (int place : places) {
            for (int a : new int[] {1, 2, Integer.MIN_VALUE, 0x40000000, -1, 0}) {
                for (int ahead : new int[] {0, ALL}) {
                    P.due("STEPS", step("0f a3 c8", a, place, 5, ahead), 1);
                    due("bt " + a + " " + place, a, 5, ahead & ~1 | a >> place % 32 + (place % 32 < 0 ? 32 : 0) & 1);
                }
            }
        }
    }

    /** "c: 0 O, 2 C, 4 Z, 6 C or Z, ..; an odd c: not what c - 1 is", with all FLAGS that there can be. */
    private static void conditions() {
        for (int c = 0; c < 16; c++) {
            String[] codes = {String.format("%02x 10", 0x70 + c), String.format("0f %02x 10 00 00 00", 0x80 + c), String.format("0f %02x c1", 0x40 + c),
                String.format("0f %02x c0", 0x90 + c)};
            for (String hex : codes) {
                code(hex);
                int size = Probe.bytes(hex).length;
                for (int k = 0; k < 64; k++) {
                    int flags = (k & 1) + (k & 2) * 2 + (k & 4) * 4 + (k & 8) * 8 + (k & 16) * 8 + (k & 32) * 64;
                    boolean so = (flags & 128) != 0 != ((flags & 2048) != 0);
                    boolean[] even = {(flags & 2048) != 0, (flags & 1) != 0, (flags & 64) != 0, (flags & 65) != 0, (flags & 128) != 0, (flags & 4) != 0, so,
                        so || (flags & 64) != 0};
                    boolean holds = even[c / 2] != (c % 2 == 1);
                    P.due("STEPS", step(hex, 0x1200, 77, 5, flags), 1);
                    boolean jumps = hex.equals(codes[0]) || hex.equals(codes[1]);
                    P.due("eip of " + hex + " with " + flags, P.house.get(9), 65536 + size + (jumps && holds ? 16 : 0));
                    int moved = hex.equals(codes[2]) ? 77 : 0x1201;
                    due(hex + " with " + flags, !jumps && holds ? moved : 0x1200, 5, flags);
                }
            }
        }
    }

    private static int[] registers() {
        int[] values = new int[8];
        for (int k = 0; k < 8; k++) {
            values[k] = 0x81C3A5E7 * (k + 3);
        }
        return values;
    }

    private static void putAll(int[] values) {
        for (int k = 0; k < 8; k++) {
            P.house.put(k, values[k]);
        }
    }

    private static void dueAll(String what, int[] values) {
        for (int k = 0; k < 8; k++) {
            P.due("get " + k + " of " + what, P.house.get(k), values[k]);
        }
    }

    /** "+r in the byte": each of the eight registers, and no other. */
    private static void everyRegister() {
        for (int r = 0; r < 8; r++) {
            int[] opcodes = {0x40, 0x48, 0xB8, 0x50, 0x58, 0x0F};
            for (int opcode : opcodes) {
                String hex = opcode == 0x0F ? String.format("0f %02x", 0xC8 + r) : String.format("%02x", opcode + r) + (opcode == 0xB8 ? "78 56 34 12" : "");
                code(hex);
                int[] values = registers();
                values[4] = 140000;
                putAll(values);
                P.house.store(140000 - 131072, 0x11223344);
                P.due("STEPS of " + hex, P.house.run(1), 1);
                int pushed = values[r];
                switch (opcode) {
                    case 0x40 -> values[r]++;
                    case 0x48 -> values[r]--;
                    case 0xB8 -> values[r] = 0x12345678;
                    case 0x50 -> values[4] -= 4;
                    case 0x58 -> {
                        values[4] += 4;
                        values[r] = 0x11223344;
                    }
                    default -> values[r] = Integer.reverseBytes(values[r]);
                }
                dueAll(hex, values);
                P.due("what is below of " + hex, P.house.load(139996 - 131072), opcode == 0x50 ? pushed : 0);
                P.due("eip of " + hex, P.house.get(9), 65536 + Probe.bytes(hex).length);
            }
        }
    }

    /** M a register, and r: each with each. */
    private static void everyPair() {
        String[] opcodes = {"89", "8b", "87", "01", "2b", "0f af", "0f 41", "31"};
        for (String opcode : opcodes) {
            for (int second = 0xC0; second < 0x100; second++) {
                int r = second / 8 % 8;
                int b = second % 8;
                String hex = opcode + String.format(" %02x", second);
                code(hex);
                int[] values = registers();
                putAll(values);
                P.due("STEPS of " + hex, P.house.run(1), 1);
                int m = values[b];
                int v = values[r];
                switch (opcode) {
                    case "89" -> values[b] = v;
                    case "8b", "0f 41" -> values[r] = m;
                    case "87" -> {
                        values[b] = v;
                        values[r] = m;
                    }
                    case "01" -> values[b] = m + v;
                    case "2b" -> values[r] = v - m;
                    case "0f af" -> values[r] = v * m;
                    default -> values[b] = m ^ v;
                }
                dueAll(hex, values);
            }
        }
    }

    /** "the lowest bytes of 0 .. 3 are the byte registers 0 .. 3, the bytes above those 4 .. 7". */
    private static void everyByteRegister() {
        String[] opcodes = {"88", "8a", "0f b6", "0f be", "0f 91", "c6"};
        for (String opcode : opcodes) {
            for (int second = 0xC0; second < 0x100; second++) {
                int r = second / 8 % 8;
                int b = second % 8;
                boolean alone = opcode.equals("0f 91") || opcode.equals("c6");
                if (alone && r != 0) {
                    continue;
                }
                String hex = opcode + String.format(" %02x", second) + (opcode.equals("c6") ? " 9a" : "");
                code(hex);
                int[] values = registers();
                putAll(values);
                P.due("STEPS of " + hex, P.house.run(1), 1);
                int m = byteOf(values, b);
                switch (opcode) {
                    case "88" -> setByte(values, b, byteOf(values, r));
                    case "8a" -> setByte(values, r, m);
                    case "0f b6" -> values[r] = m;
                    case "0f be" -> values[r] = m >= 128 ? m - 256 : m;
                    case "0f 91" -> setByte(values, b, 1);
                    default -> setByte(values, b, 0x9A);
                }
                dueAll(hex, values);
            }
        }
    }

    private static int byteOf(int[] values, int r) {
        return r < 4 ? values[r] & 255 : values[r - 4] >> 8 & 255;
    }

    private static void setByte(int[] values, int r, int v) {
        if (r < 4) {
            values[r] = values[r] & 0xFFFFFF00 | v;
        } else {
            values[r - 4] = values[r - 4] & 0xFFFF00FF | v << 8;
        }
    }

    /** "M: the second byte's upper two bits mode, next three r, lower three b": each, with each third byte. */
    private static void everyAddress() {
        for (int second = 0; second < 0xC0; second++) {
            int b = second % 8;
            for (int third = 0; third < (b == 4 ? 256 : 1); third += second / 8 % 8 == 0 ? 1 : 37) {
                address(second, third);
            }
        }
    }

    private static void address(int second, int third) {
        int mode = second / 64;
        int r = second / 8 % 8;
        int b = second % 8;
        String hex = String.format("8d %02x ", second) + (b == 4 ? String.format("%02x ", third) : "");
        int[] values = registers();
        int base = b == 4 ? third % 8 : b;
        int sum = mode == 0 && base == 5 ? 0 : values[base];
        if (b == 4 && third / 8 % 8 != 4) {
            sum += values[third / 8 % 8] * (1 << third / 64);
        }
        if (mode == 1) {
            hex += "9c";
            sum -= 100;
        } else if (mode == 2 || base == 5) {
            hex += number(0x8899AABB);
            sum += 0x8899AABB;
        }
        left -= 40;
        if (left < 40) {
            P.fresh();
            left = 480;
        }
        P.code(hex);
        putAll(values);
        P.due("STEPS of " + hex, P.house.run(1), 1);
        values[r] = sum;
        dueAll(hex, values);
        P.due("eip of " + hex, P.house.get(9), 65536 + Probe.bytes(hex).length);
    }

    /** "Sums are modulo 2 to the 32": of addresses, with and without a third byte, and lea's. */
    private static void addresses() {
        String[][] rows = {
            {"8b 80 01 00 02 00", "-1", "0"}, {"8b 40 ff", "131073", "0"}, {"8b 40 80", "131200", "0"}, {"8b 40 7f", "130945", "0"},
            {"8b 80 00 00 00 80", "-2147352576", "0"}, {"8b 04 08", "-4", "131076"}, {"8b 04 48", "131072", "-2147483648"}, {"8b 04 88", "131072", "1073741824"},
            {"8b 04 c8", "131072", "536870912"}, {"8b 04 c8", "131080", "-1"}, {"8b 84 c8 08 00 02 00", "0", "-1"}, {"8b 84 c8 00 00 00 80", "-2147352568", "-1"},
            {"8b 04 0d ff ff ff ff", "0", "131073"}, {"8b 04 8d 04 00 00 00", "0", "32767"}, {"8b 04 8d 00 00 02 00", "0", "1073741824"},
            {"8b 44 08 ff", "131073", "0"}, {"8b 04 20", "131072", "9"}, {"8b 04 a0", "131072", "9"}, {"8b 44 20 01", "131071", "9"}};
        for (String[] row : rows) {
            code(row[0]);
            P.house.store(0, 0x11223344);
            P.due("STEPS of " + row[0], step(row[0], Integer.parseInt(row[1]), Integer.parseInt(row[2]), 0, 0), 1);
            P.due("what is read by " + row[0] + " " + row[1] + " " + row[2], P.house.get(0), 0x11223344);
            String lea = "8d" + row[0].substring(2);
            code(lea);
            P.due("STEPS of " + lea, step(lea, Integer.parseInt(row[1]), Integer.parseInt(row[2]), 0, 0), 1);
            P.due("where " + lea + " is", P.house.get(0), 131072);
        }
        String[][] outside = {{"8b 80 00 00 02 00", "-1"}, {"8b 80 00 00 02 00", "65533"}, {"8b 80 00 00 02 00", "65536"}, {"8b 00", "-1"}, {"8b 00", "-4"}, {"8b 00", "0"},
            {"8a 80 00 00 02 00", "-1"}, {"8a 80 00 00 02 00", "65536"}, {"89 80 ff ff ff 7f", "1"}, {"88 00", "2147483647"}, {"8b 40 ff", "131072"}, {"8b 40 01", "196604"}};
        for (String[] row : outside) {
            code(row[0]);
            P.due("STEPS of " + row[0] + " " + row[1], step(row[0], Integer.parseInt(row[1]), 0, 0, ALL), 0);
            P.due("MEMORY", P.house.get(10), 2);
            due(row[0], Integer.parseInt(row[1]), 0, ALL);
        }
    }

    /** push, call: the four bytes below esp; pop, ret: those from esp on. */
    private static void stackEdges() {
        String[] pushes = {"50", "68 01 02 03 04", "6a 01", "ff f0", "e8 00 00 00 00", "ff d0"};
        String[] pops = {"58", "c3"};
        int[] finePush = {131076, 131077, 140000, 196607, 196608};
        int[] badPush = {131075, 131074, 131073, 131072, 131071, 196609, 196610, 196612, 0, 1, 3, 4, -1, -4, Integer.MIN_VALUE, Integer.MAX_VALUE};
        int[] finePop = {131072, 131073, 140000, 196603, 196604};
        int[] badPop = {131071, 131070, 131069, 131068, 196605, 196606, 196607, 196608, 0, -1, -4, Integer.MIN_VALUE, Integer.MAX_VALUE};
        for (String push : pushes) {
            for (int esp : finePush) {
                stack(push, esp, true, -4);
            }
            for (int esp : badPush) {
                stack(push, esp, false, 0);
            }
        }
        for (String pop : pops) {
            for (int esp : finePop) {
                stack(pop, esp, true, 4);
            }
            for (int esp : badPop) {
                stack(pop, esp, false, 0);
            }
        }
    }

    private static void stack(String hex, int esp, boolean fine, int way) {
        code(hex);
        P.house.put(4, esp);
        P.house.put(0, 70000);
        P.house.put(8, ALL);
        int at = esp + Math.min(way, 0) - 131072;
        P.due("STEPS of " + hex + " at " + esp, P.house.run(1), fine ? 1 : 0);
        P.due("STOP of " + hex + " at " + esp, P.house.get(10), fine ? 0 : 2);
        P.due("esp of " + hex + " at " + esp, P.house.get(4), esp + way);
        P.due("FLAGS of " + hex + " at " + esp, P.house.get(8), ALL);
        if (!fine) {
            P.due("eip of " + hex + " at " + esp, P.house.get(9), 65536);
            P.due("eax of " + hex + " at " + esp, P.house.get(0), 70000);
            P.due("the first of DATA", P.house.load(0), 0);
            P.due("the last of DATA", P.house.load(65532), 0);
        } else if (way < 0) {
            P.due("what was pushed by " + hex + " at " + esp, P.house.load(at) != 0, true);
            P.due("nothing below", at >= 4 ? P.house.load(at - 4) : 0, 0);
            P.due("nothing above", at <= 65528 ? P.house.load(at + 4) : 0, 0);
        }
    }

    /** "FETCH: eip is not in CODE", 65536 .. 131071. */
    private static void codeEdges() {
        int[] inside = {65536, 65538, 65600, 131070, 131071};
        int[] outside = {65535, 65534, 0, 1, -1, 131072, 131073, 196607, Integer.MIN_VALUE, Integer.MAX_VALUE};
        for (int place : inside) {
            code("ff e0 f4");
            P.due("jmp to " + place, step("ff e0 f4", place, 0, 0, 0), 1);
            P.due("eip", P.house.get(9), place);
            P.house.put(0, 65538);
            P.house.run(5);
            P.due("HLT there", P.house.get(10), 1);
        }
        for (int place : outside) {
            String[] ways = {"ff e0", "ff d0", "50 c3", "e9 " + number(place - 65541), "e8 " + number(place - 65541), "0f 84 " + number(place - 65542),
                "ff 25 00 00 02 00", "ff 15 00 00 02 00"};
            for (String way : ways) {
                code(way);
                P.house.put(0, place);
                P.house.put(4, 140000);
                P.house.put(8, 64);
                P.house.store(0, place);
                int steps = way.equals("50 c3") ? 2 : 1;
                P.due("no STOP at the STEP to " + place + " by " + way, P.house.run(steps), steps);
                P.due("STOP", P.house.get(10), 0);
                P.due("eip", P.house.get(9), place);
                P.due("none is made there", P.house.run(1), 0);
                P.due("FETCH", P.house.get(10), 3);
                P.due("eip stays", P.house.get(9), place);
            }
        }
        for (int at : new int[] {0, 1, 65534, 65535}) {
            P.due("begin " + at, P.house.begin(at), true);
            P.due("eip", P.house.get(9), 65536 + at);
            P.due("no STOP", P.house.get(10), 0);
        }
        for (int at : new int[] {-1, 65536, 65537, 131072, Integer.MIN_VALUE, Integer.MAX_VALUE}) {
            P.due("begin " + at, P.house.begin(at), false);
            P.due("eip", P.house.get(9), 131071);
        }
    }

    private static String number(int v) {
        return String.format("%02x %02x %02x %02x", v & 255, v >> 8 & 255, v >> 16 & 255, v >>> 24);
    }

    /** "FLAGS (8) are those of v's bits that there are". */
    private static void flagBits() {
        P.fresh();
        for (int k = 0; k < 32; k++) {
            boolean there = k == 0 || k == 2 || k == 4 || k == 6 || k == 7 || k == 11;
            P.due("put bit " + k, P.house.put(8, 1 << k), true);
            P.due("FLAGS of bit " + k, P.house.get(8), there ? 1 << k : 0);
            P.due("put all but bit " + k, P.house.put(8, ~(1 << k)), true);
            P.due("FLAGS of all but bit " + k, P.house.get(8), there ? ALL - (1 << k) : ALL);
        }
        for (int what : new int[] {-1, 9, 10, 11, 16, 256, Integer.MIN_VALUE, Integer.MAX_VALUE}) {
            P.due("put " + what, P.house.put(what, 3), false);
        }
        int[] want = {0, 0, 0, 0, 0, 0, 0, 0, ALL, 65536, 0};
        P.house.put(8, -1);
        for (int what = 0; what < want.length; what++) {
            P.due("get " + what, P.house.get(what), want[what]);
        }
        for (int what : new int[] {-1, 11, 12, 65536, Integer.MIN_VALUE, Integer.MAX_VALUE}) {
            P.due("get " + what, P.house.get(what), 0);
        }
        for (int v : VALUES) {
            for (int what = 0; what < 8; what++) {
                P.due("put " + what, P.house.put(what, v), true);
                P.due("get " + what, P.house.get(what), v);
            }
            if (v == 256) {
                P.fresh();
            }
        }
    }

    /** "Up to n STEPS (0 .. 100000; none when there is a STOP)"; "behind the last one that was asked for none is". */
    private static void runLimits() {
        code("40 eb fd");
        int made = 0;
        for (int n : new int[] {0, 1, 2, 3, 99999, 100000}) {
            P.due("run " + n, P.house.run(n), n);
            made += n;
            P.due("eax", P.house.get(0), (made + 1) / 2);
        }
        for (int n : new int[] {-1, -2, 100001, 100002, 200000, Integer.MIN_VALUE, Integer.MAX_VALUE}) {
            P.due("run " + n, P.house.run(n), -1);
            P.due("none was made", P.house.get(0), (made + 1) / 2);
        }
        String nops = "90 ".repeat(10);
        for (int n = 0; n <= 13; n++) {
            code(nops + "f4");
            P.due("run " + n, P.house.run(n), Math.min(n, 10));
            P.due("the HLT is tried from 11 on", P.house.get(10), n > 10 ? 1 : 0);
            P.due("eip", P.house.get(9), 65536 + Math.min(n, 10));
        }
        code(nops);
        P.due("just the 10", P.house.run(10), 10);
        P.due("no STOP", P.house.get(10), 0);
        P.due("run 0 tries none", P.house.run(0), 0);
        P.due("no STOP", P.house.get(10), 0);
        P.due("run 1 tries one", P.house.run(1), 0);
        P.due("STOP", P.house.get(10), 1);
    }

    /** "STOPS, at which nothing of the instruction is done, and eip stays". */
    private static void stopsDoNothing() {
        String[][] rows = {{"f4", "1"}, {"87 08", "2"}, {"01 08", "2"}, {"ff 00", "2"}, {"0f 94 00", "2"}, {"ff 30", "2"}, {"ff 10", "2"}, {"50", "2"},
            {"c3", "2"}, {"5c", "2"}, {"e8 00 00 00 00", "2"}, {"f7 20", "2"}, {"f7 38", "2"}, {"d3 20", "2"}, {"c1 20 21", "2"}, {"0f 44 08", "2"}, {"0f 45 08", "2"},
            {"c7 00 01 00 00 00", "2"}, {"88 00", "2"}, {"66 90", "4"}, {"0f 0b", "4"}, {"f7 f7", "5"}, {"f7 ff", "5"}, {"f7 35 00 00 02 00", "5"}};
        int[] registers = {196608, 1, 5, 7, 196608, 9, 11, 0};
        for (String[] row : rows) {
            code("90 " + row[0]);
            for (int k = 0; k < 8; k++) {
                P.house.put(k, registers[k]);
            }
            P.house.put(8, ALL);
            P.house.store(65532, 0x01020304);
            boolean push = row[0].equals("50") || row[0].startsWith("e8") || row[0].equals("ff 30") || row[0].equals("ff 10");
            if (push) {
                P.house.put(4, 131074);
            }
            P.due("STEPS of " + row[0], P.house.run(9), 1);
            P.due("STOP of " + row[0], P.house.get(10), Integer.parseInt(row[1]));
            P.due("eip of " + row[0], P.house.get(9), 65537);
            P.due("FLAGS of " + row[0], P.house.get(8), ALL);
            for (int k = 0; k < 8; k++) {
                P.due("get " + k + " of " + row[0], P.house.get(k), push && k == 4 ? 131074 : registers[k]);
            }
            P.due("DATA of " + row[0], P.house.load(65532), 0x01020304);
            P.due("DATA of " + row[0], P.house.load(0), 0);
        }
    }

    /** begin() and place() and arm() end a STOP; put(), store(), grammar(), subject() and what asks do not. */
    private static void whatEndsAStop() {
        code("f7 f9 f4");
        P.due("run", P.house.run(2), 0);
        P.due("DIVIDE", P.house.get(10), 5);
        P.house.put(1, 1);
        P.house.store(0, 1);
        P.grammar("a='x';");
        P.subject("x");
        P.house.check(0);
        P.house.begin(-1);
        P.house.arm(5, 5);
        P.house.match(0, 0);
        P.due("the STOP stays", P.house.get(10), 5);
        P.due("none is made", P.house.run(2), 0);
        P.due("begin", P.house.begin(0), true);
        P.due("it does not", P.house.get(10), 0);
        P.due("now it divides", P.house.run(2), 1);
        P.due("HLT", P.house.get(10), 1);
        P.code("90");
        P.due("no STOP behind place()", P.house.get(10), 0);
        P.due("run", P.house.run(2), 1);
        P.due("HLT", P.house.get(10), 1);
        P.due("arm", P.house.arm(0, 5), true);
        P.due("no STOP behind arm()", P.house.get(10), 0);
    }

    /** "The four bytes of DATA from place at on (0 .. 65532)": they lie with the lowest first, and no others change. */
    private static void dataEdges() {
        for (int at : new int[] {0, 1, 2, 3, 4, 32766, 65529, 65530, 65531, 65532}) {
            P.fresh();
            P.due("store " + at, P.house.store(at, 0x84838281), true);
            P.due("load " + at, P.house.load(at), 0x84838281);
            for (int way = -3; way <= 3; way++) {
                if (at + way >= 0 && at + way <= 65532) {
                    int want = way < 0 ? 0x84838281 << -8 * way : 0x84838281 >>> 8 * way;
                    P.due("load " + way + " from " + at, P.house.load(at + way), want);
                }
            }
            P.due("nothing far away", at < 32000 ? P.house.load(65532) : P.house.load(0), 0);
        }
        P.fresh();
        for (int at : new int[] {-1, -2, -3, -4, 65533, 65534, 65535, 65536, 131072, 196604, Integer.MIN_VALUE, Integer.MAX_VALUE}) {
            P.due("store " + at, P.house.store(at, -1), false);
            P.due("load " + at, P.house.load(at), 0);
        }
        P.due("the first", P.house.load(0), 0);
        P.due("the last", P.house.load(65532), 0);
        P.house.store(0, -1);
        P.house.store(65532, -1);
        for (int at : new int[] {-1, -3, 65533, 65535}) {
            P.due("load " + at + " beside what is there", P.house.load(at), 0);
        }
    }
}
