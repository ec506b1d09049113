/** Edges of Part VI, promise 17: BUNDLES, MASKS, CONFINED places, GO, GOALS and the order of reasons. */
public final class CheckEdgeTest {
    private static final Probe P = new Probe();
    private static int left;

    public static void main(String[] args) {
        bundles();
        reasonsInOrder();
        imagesEnd();
        aloneConfined();
        maskNumbers();
        maskConfined();
        maskAndBundle();
        maskAndGoal();
        goNumbers();
        goInBundles();
        goAndGoals();
        goals();
        goalsOfAll();
        nothingOfACodeThatWas();
        fullImage();
        firstThatIsRefused();
        P.finish();
    }

    private static void check(String code, int reason, int place) {
        if (left == 0) {
            P.fresh();
            left = 20;
        }
        left--;
        byte[] bytes = Probe.bytes(code);
        if (bytes.length > 200) {
            P.fresh();
            left = 0;
        }
        P.tape(bytes);
        P.due("place", P.house.place(), bytes.length);
        P.due("reason of " + code, P.house.check(0), reason);
        P.due("place of " + code, P.house.check(1), place);
    }

    private static void fine(String code) {
        check(code, 0, -1);
    }

    /** Refused where the code has its bar. */
    private static void refused(int reason, String code) {
        check(code.replace("|", ""), reason, Probe.bytes(code.substring(0, code.indexOf('|'))).length);
    }

    private static String nops(int count) {
        return "90 ".repeat(count);
    }

    private static String number(long v) {
        return String.format("%02x %02x %02x %02x ", v & 255, v >> 8 & 255, v >> 16 & 255, v >> 24 & 255);
    }

    /** "BUNDLES are of 32 bytes, the first one begins with the IMAGE"; "it begins in one BUNDLE and ends in another". */
    private static void bundles() {
        String[] codes = {"90", "89 c0", "83 c0 01", "8d 44 24 01", "b8 00 00 00 00", "81 c0 00 00 00 00", "8d 84 80 00 00 00 00", "0f c8", "0f 84 00 00 00 00", "eb 00"};
        for (String code : codes) {
            int size = Probe.bytes(code).length;
            for (int at = 0; at <= 64; at++) {
                String text = nops(at) + "|" + code + " " + nops(3);
                if (at % 32 + size > 32) {
                    refused(2, text);
                } else {
                    fine(text.replace("|", ""));
                }
            }
        }
        refused(2, nops(22) + "|c7 84 80 00 00 02 00 00 00 00 00");
        refused(4, nops(21) + "|c7 84 80 00 00 02 00 00 00 00 00");
        refused(2, nops(23) + "|c7 05 00 00 02 00 00 00 00 00");
        fine(nops(22) + "c7 05 00 00 02 00 00 00 00 00");
    }

    /** "for the first reason of these". */
    private static void reasonsInOrder() {
        refused(1, nops(31) + "|0f 0b");
        refused(1, nops(31) + "|ff d8");
        refused(1, nops(31) + "|ff");
        refused(1, nops(29) + "|68 00 00 00");
        refused(2, nops(29) + "|68 00 00 00 00");
        refused(2, nops(31) + "|ff 30");
        refused(2, nops(31) + "|ff 20");
        refused(2, nops(31) + "|ff e0");
        refused(2, nops(31) + "|8b 00");
        refused(2, nops(31) + "|eb 7f");
        refused(2, nops(31) + "|eb fd");
        refused(3, "|ff 30");
        refused(3, "|ff 20");
        refused(3, "|ff 10");
        refused(3, "|ff 35 00 00 02 00");
        refused(3, "|ff 25 00 00 02 00");
        refused(3, "|ff d0");
        refused(4, "|01 00");
        refused(5, "|ff e0");
        refused(6, "|eb fd");
    }

    /** "or goes beyond the IMAGE's end": each beginning of each instruction. */
    private static void imagesEnd() {
        String[] codes = {"8b 05 00 00 02 00", "b8 01 02 03 04", "e9 00 00 00 00", "eb 00", "0f 84 00 00 00 00", "c7 05 00 00 02 00 01 00 00 00", "83 c0 01",
            "0f b6 05 00 00 02 00", "8d 84 80 00 00 00 00", "68 00 00 00 00", "ff e0", "0f a3 c0"};
        for (String code : codes) {
            String[] bytes = code.split(" ");
            StringBuilder begun = new StringBuilder();
            for (int k = 0; k < bytes.length - 1; k++) {
                begun.append(bytes[k]).append(' ');
                refused(1, "|" + begun);
                refused(1, "90 |" + begun);
                refused(1, "89 c0 b8 00 00 00 00 |" + begun);
            }
        }
        fine("");
        fine("90");
    }

    /** "an i32 alone (without a third byte), v, with 131072 <= v, v + n <= 196608". */
    private static void aloneConfined() {
        String[] four = {"8b 05", "89 0d", "01 0d", "3b 05", "ff 05", "f7 25", "87 0d", "0f af 05", "0f 44 05", "d1 25", "d3 25", "85 0d", "f7 1d"};
        String[] one = {"8a 05", "88 0d", "0f b6 05", "0f be 05", "0f 94 05"};
        long[] low = {131071, 131070, 0, 65536, 0x80000000L, 0xFFFFFFFFL, 0xFFFE0000L};
        for (String code : four) {
            fine(code + number(131072));
            fine(code + number(196604));
            refused(4, "|" + code + number(196605));
            refused(4, "|" + code + number(196608));
            refused(4, "|" + code + number(0x7FFFFFFFL));
            for (long v : low) {
                refused(4, "|" + code + number(v));
            }
        }
        for (String code : one) {
            fine(code + number(131072));
            fine(code + number(196607));
            refused(4, "|" + code + number(196608));
            for (long v : low) {
                refused(4, "|" + code + number(v));
            }
        }
        refused(4, "|8b 04 25 " + number(131072));
        refused(4, "|8a 04 25 " + number(131072));
        fine("8d 04 25 " + number(0));
        fine("8d 05" + number(0xFFFFFFFFL));
        fine("8d 00");
        fine("8d 44 24 7f");
    }

    /** "an and (81 /4 or 83 /4) of a register with a number 0 .. 65535". */
    private static void maskNumbers() {
        String use = "8a 80 " + number(131072);
        for (long k : new long[] {0, 1, 2, 127, 128, 255, 256, 65504, 65534, 65535}) {
            fine("81 e0 " + number(k) + use);
        }
        for (long k : new long[] {65536, 65537, 131071, 0x7FFFFFFF, 0x80000000L, 0xFFFF0000L, 0xFFFFFFFFL}) {
            refused(4, "81 e0 " + number(k) + "|" + use);
        }
        for (int k = 0; k < 256; k++) {
            String and = String.format("83 e0 %02x ", k);
            if (k < 128) {
                fine(and + use);
            } else {
                refused(4, and + "|" + use);
            }
        }
        for (int n = 0; n < 8; n++) {
            String first = String.format("81 %02x ", 0xC0 + 8 * n) + number(7);
            String second = String.format("83 %02x 07 ", 0xC0 + 8 * n);
            if (n == 4) {
                fine(first + use);
                fine(second + use);
            } else {
                refused(4, first + "|" + use);
                refused(4, second + "|" + use);
            }
        }
        refused(4, "21 c8 |" + use);
        refused(4, "23 c1 |" + use);
        refused(4, "81 25 " + number(131072) + number(7) + "|" + use);
    }

    /** "with 131072 <= v and k + v + n <= 196608", a register without a third byte. */
    private static void maskConfined() {
        for (int k : new int[] {0, 1, 127, 4096, 65532, 65535}) {
            String and = "81 e3 " + number(k);
            int most = 196608 - k;
            if (most - 4 >= 131072) {
                fine(and + "8b 83 " + number(most - 4));
                fine(and + "c7 83 " + number(most - 4) + number(5));
            }
            refused(4, and + "|8b 83 " + number(most - 3));
            fine(and + "8a 83 " + number(most - 1));
            fine(and + "0f b6 83 " + number(most - 1));
            refused(4, and + "|8a 83 " + number(most));
            refused(4, and + "|0f 94 83 " + number(most));
            refused(4, and + "|8a 83 " + number(131071));
            refused(4, and + "|8b 83 " + number(131071));
            refused(4, and + "|8b 83 " + number(0));
            refused(4, and + "|8b 83 " + number(-1));
            refused(4, and + "|8b 83 " + number(0x7FFFFFFF));
            refused(4, and + "|8b 03");
            refused(4, and + "|8b 43 7f");
            refused(4, and + "|8b 84 23 " + number(131072));
            refused(4, and + "|8b 04 1d " + number(131072));
        }
        for (int r = 0; r < 8; r++) {
            for (int s = 0; s < 8; s++) {
                if (s != 4) {
                    String code = String.format("83 %02x 10 |8b %02x ", 0xE0 + r, 0x80 + s) + number(131072);
                    if (r == s) {
                        fine(code.replace("|", ""));
                    } else {
                        refused(4, code);
                    }
                }
            }
        }
        refused(4, "83 e4 10 |8b 84 24 " + number(131072));
    }

    /** A MASK is "up to the end of the BUNDLE". */
    private static void maskAndBundle() {
        for (int at = 0; at <= 29; at++) {
            for (int between = 0; between <= 30; between++) {
                int use = at + 3 + between;
                String code = nops(at) + "83 e0 10 " + nops(between);
                String rest = "8b 80 " + number(131072);
                if (use % 32 > 26) {
                    refused(2, code + "|" + rest);
                } else if (use / 32 == 0) {
                    fine(code + rest);
                } else {
                    refused(4, code + "|" + rest);
                }
            }
        }
    }

    /** ".. the next GOAL (told away ahead of what stands there)"; "(one within an instruction ends no MASK)". */
    private static void maskAndGoal() {
        String use = "8b 80 " + number(131072);
        String tail = "81 fa 00 00 00 00 ";
        for (int goal = 0; goal <= 17; goal++) {
            String jump = String.format("eb %02x ", goal - 2 - 17 & 255);
            String code = "90 83 e0 10 90 " + use + tail + jump;
            boolean begins = goal == 0 || goal == 1 || goal == 4 || goal == 5 || goal == 11 || goal == 17;
            if (goal == 4 || goal == 5) {
                refused(4, "90 83 e0 10 90 |" + use + tail + jump);
            } else if (begins) {
                fine(code);
            } else {
                refused(6, "90 83 e0 10 90 " + use + tail + "|" + jump);
            }
        }
        refused(4, "83 e0 10 |" + use + "74 f8 ");
        refused(4, "83 e0 10 |" + use + "0f 8f f4 ff ff ff");
        refused(4, "83 e0 10 |" + use + "e9 f5 ff ff ff");
        fine("83 e0 10 " + use + "0f 8f f1 ff ff ff");
        fine("83 e0 10 " + use + "eb 00 ");
        refused(3, "83 e0 10 " + use + "|e8 f5 ff ff ff");
    }

    private static String go(long mask, long base, int r) {
        return String.format("81 %02x ", 0xE0 + r) + number(mask) + String.format("81 %02x ", 0xC0 + r) + number(base) + "|" + String.format("ff %02x ", 0xE0 + r);
    }

    /** "an add (81 /0) of 65536", "an and (81 /4) of that with a number 0 .. 65504 that is a multiple of 32". */
    private static void goNumbers() {
        for (long mask : new long[] {0, 32, 64, 96, 4064, 32768, 65472, 65504}) {
            for (int r = 0; r < 8; r++) {
                fine(go(mask, 65536, r).replace("|", ""));
            }
        }
        for (long mask : new long[] {1, 16, 31, 33, 48, 65488, 65503, 65505, 65535, 65536, 65568, 131072, 0x7FFFFFE0, 0x80000000L, 0xFFFFFFE0L, 0xFFFFFFFFL}) {
            refused(5, go(mask, 65536, 1));
        }
        for (long base : new long[] {0, 32, 65504, 65535, 65537, 65568, 131072, 0x80010000L, 0xFFFF0000L}) {
            refused(5, go(65504, base, 1));
        }
        refused(5, "83 e1 20 81 c1 " + number(65536) + "|ff e1");
        refused(5, "81 e1 e0 ff 00 00 83 c1 20 |ff e1");
        refused(5, "81 e1 e0 ff 00 00 01 c1 |ff e1");
        for (int r = 0; r < 8; r++) {
            if (r != 1) {
                refused(5, String.format("81 %02x ", 0xE0 + r) + number(65504) + "81 c1 " + number(65536) + "|ff e1");
                refused(5, "81 e1 " + number(65504) + String.format("81 %02x ", 0xC0 + r) + number(65536) + "|ff e1");
                refused(5, "81 e1 " + number(65504) + "81 c1 " + number(65536) + String.format("|ff %02x", 0xE0 + r));
            }
        }
        for (int n = 0; n < 8; n++) {
            if (n != 4) {
                refused(5, String.format("81 %02x ", 0xC1 + 8 * n) + number(65504) + "81 c1 " + number(65536) + "|ff e1");
            }
            if (n != 0) {
                refused(5, "81 e1 " + number(65504) + String.format("81 %02x ", 0xC1 + 8 * n) + number(65536) + "|ff e1");
            }
        }
        refused(5, "81 e1 e0 ff 00 00 90 81 c1 00 00 01 00 |ff e1");
        refused(5, "81 e1 e0 ff 00 00 81 c1 00 00 01 00 90 |ff e1");
        refused(5, "81 c1 00 00 01 00 |ff e1");
        refused(5, "81 e1 e0 ff 00 00 |ff e1");
        refused(5, "|ff e1");
        refused(5, "81 e1 e0 ff 00 00 81 c1 00 00 01 00 ff e1 |ff e1");
        refused(5, "81 e1 e0 ff 00 00 81 c1 00 00 01 00 81 c1 00 00 01 00 |ff e1");
        fine("81 e1 e0 ff 00 00 81 e1 e0 ff 00 00 81 c1 00 00 01 00 ff e1");
    }

    /** "all three in one BUNDLE". */
    private static void goInBundles() {
        String go = go(65504, 65536, 2).replace("|", "");
        for (int at = 0; at <= 32; at++) {
            String code = nops(at) + go;
            if (at <= 18 || at == 32) {
                fine(code);
            } else if (at == 19 || at == 31 || at == 30 || at == 29 || at == 28 || at == 27) {
                int first = at == 19 ? at + 12 : at;
                check(code, 2, first);
            } else if (at == 20) {
                check(code, 5, at + 12);
            } else if (at < 26) {
                check(code, 2, at + 6);
            } else {
                check(code, 5, at + 12);
            }
        }
    }

    /** "no GOAL at the latter two". */
    private static void goAndGoals() {
        String go = "81 e1 e0 ff 00 00 81 c1 00 00 01 00 |ff e1 ";
        refused(5, go + "eb f6 ");
        refused(5, go + "eb fc ");
        fine(go.replace("|", "") + "eb f0 ");
        fine(go.replace("|", "") + "eb fe ");
        fine("eb 00 " + go.replace("|", ""));
        refused(5, "eb 06 " + go);
        refused(5, "eb 0c " + go);
        refused(5, "74 06 " + go);
        refused(5, "0f 8c 0c 00 00 00 " + go);
        refused(6, go.replace("|", "") + "|eb f7 ");
        refused(6, go.replace("|", "") + "|eb fd ");
        refused(5, nops(14) + go + "eb fc 00");
    }

    /** "neither the beginning of an INSTRUCTION of the IMAGE nor a place of CODE behind the IMAGE". */
    private static void goals() {
        String head = "b8 00 00 00 00 89 c0 ";
        boolean[] begins = new boolean[14];
        begins[0] = true;
        begins[5] = true;
        begins[7] = true;
        begins[12] = true;
        begins[13] = true;
        for (int goal = -3; goal <= 20; goal++) {
            boolean due = goal >= 0 && (goal > 13 || begins[goal]);
            String near = head + "|e9 " + number(goal - 12) + "90 ";
            String close = head + "|" + String.format("eb %02x ", goal - 9 & 255) + "0f c8 90 90 ";
            String ifNear = head + "|0f 84 " + number(goal - 13);
            if (due) {
                fine(near.replace("|", ""));
            } else {
                refused(6, near);
            }
            boolean closeDue = goal == 0 || goal == 5 || goal == 7 || goal == 9 || goal >= 11;
            if (closeDue) {
                fine(close.replace("|", ""));
            } else {
                refused(6, close);
            }
            if (goal == 0 || goal == 5 || goal == 7 || goal >= 13) {
                fine(ifNear.replace("|", ""));
            } else {
                refused(6, ifNear);
            }
        }
        for (long goal : new long[] {65535, 65534, 5, 6, 100}) {
            fine("e9 " + number(goal - 5));
        }
        for (long goal : new long[] {65536, 65537, 131072, -1, -65536, -65537, 0x7FFFFFFF, 0x80000000L, 0x80000004L, 0xFFFFFFFFL, 1, 4}) {
            refused(6, "|e9 " + number(goal - 5));
        }
        for (int c = 0; c < 16; c++) {
            fine(String.format("%02x fe", 0x70 + c));
            fine(String.format("0f %02x fa ff ff ff", 0x80 + c));
            refused(6, String.format("|%02x ff", 0x70 + c));
            refused(6, String.format("|0f %02x fb ff ff ff", 0x80 + c));
            refused(6, String.format("|%02x fd", 0x70 + c));
        }
        fine("eb 7f");
        refused(6, "|eb 80");
        refused(6, "|eb 02 89 c0 cc");
        refused(6, "|eb 03 89 c0 cc 90");
    }

    /** A GOAL is "of all INSTRUCTIONS, also of refused ones": of none behind the first that is none. */
    private static void goalsOfAll() {
        String use = "8b 80 " + number(131072);
        refused(4, "83 e0 10 |" + use + nops(22) + "eb e2");
        refused(4, "83 e0 10 |" + use + "50 eb f7");
        refused(1, "83 e0 10 " + use + "|cc eb f7");
        refused(1, "83 e0 10 " + use + "|0f eb f7");
    }

    /** A CHECK begins anew: no and, add, MASK, GOAL or beginning of a code that was checked before counts. */
    private static void nothingOfACodeThatWas() {
        String and = "81 e1 e0 ff 00 00 ";
        String add = "81 c1 00 00 01 00 ";
        String use = "8b 81 00 00 02 00 ";
        String[][] pairs = {{and + add, "ff e1", "5 0"}, {and, add + "ff e1", "5 6"}, {"83 e1 10", use, "4 0"}, {"90 90 90 90", "eb 01 b8 00 00 00 00", "6 0"},
            {"eb 01 90 90", "83 e1 10 " + use, "0 -1"}, {"90 eb 00 90", "83 e1 10 " + use, "0 -1"}, {and + add + "eb f8", and + add + "ff e1", "0 -1"},
            {"cc", "90", "0 -1"}, {"90 c3", "90 90", "0 -1"}, {nops(40) + "c3", "90", "0 -1"}, {"90", "cc", "1 0"}, {"50", "", "0 -1"}};
        for (String[] pair : pairs) {
            P.fresh();
            P.code(pair[0]);
            P.house.check(0);
            P.code(pair[1]);
            P.due("check of " + pair[1] + " behind " + pair[0], P.house.check(0) + " " + P.house.check(1), pair[2]);
            P.fresh();
            P.code(pair[1]);
            P.due("check of " + pair[1], P.house.check(0) + " " + P.house.check(1), pair[2]);
        }
        left = 0;
    }

    /** An IMAGE of 4000 bytes, refused at its last byte, or not at all. */
    private static void fullImage() {
        StringBuilder code = new StringBuilder(nops(3998));
        check(code + "eb fe", 0, -1);
        check(code + "eb 00", 0, -1);
        check(code + "eb 80", 0, -1);
        check(code + "90 c3", 3, 3999);
        check(code + "90 b8", 1, 3999);
        check(nops(3995) + "e9 5f f0 00 00", 0, -1);
        check(nops(3995) + "e9 60 f0 00 00", 6, 3995);
        check(nops(3995) + "e9 60 f0 ff ff", 0, -1);
        check(nops(3995) + "e9 5f f0 ff ff", 6, 3995);
        check("e9 9b 0f 00 00" + nops(3995), 0, -1);
        check("e9 9a 0f 00 00" + nops(3995), 0, -1);
        check("e9 99 0f 00 00" + nops(3993) + "89 c0", 0, -1);
        check("e9 9a 0f 00 00" + nops(3993) + "89 c0", 6, 0);
    }

    /** "The CHECK tells the first instruction that is refused", and changes nothing. */
    private static void firstThatIsRefused() {
        refused(3, "90 |c3 50 cc");
        refused(4, "90 |8b 00 c3");
        refused(6, "|eb 03 8b 00 b8 00 00 00 00 ff e0");
        P.fresh();
        P.code("40 c3 cc");
        P.house.run(1);
        String before = Whole.text(P.house);
        for (int k = 0; k < 3; k++) {
            P.due("reason", P.house.check(0), 3);
            P.due("place", P.house.check(1), 1);
            P.due("another", P.house.check(2), -1);
            P.due("another", P.house.check(-1), -1);
        }
        P.due("all behind it", Whole.text(P.house), before);
        P.due("what is refused runs all the same", P.house.run(1), 0);
        P.due("MEMORY", P.house.get(10), 2);
        left = 0;
    }
}
