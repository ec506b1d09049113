/** Promise 17 (check): codes, each with the reason and the place that are due. */
public final class CheckTest {
    private static final Probe P = new Probe();

    private static final String AND_EAX = "81 e0 ff ff 00 00 ";
    private static final String GO = "81 e1 e0 ff 00 00 81 c1 00 00 01 00 ff e1 ";
    private static final String LOAD = "8b 80 00 00 02 00 ";

    public static void main(String[] args) {
        unreadable();
        bundles();
        stacks();
        alone();
        masked();
        writers();
        masksThatEnd();
        masksThatStay();
        wildJumps();
        goals();
        edges();
        P.finish();
    }

    private static void check(String code, int reason, int place) {
        P.fresh();
        P.code(code);
        P.due("reason of " + code, P.house.check(0), reason);
        P.due("place of " + code, P.house.check(1), place);
    }

    private static void fine(String... codes) {
        for (String code : codes) {
            check(code, 0, -1);
        }
    }

    /** The place is behind all that stands ahead of a bar. */
    private static void refused(int reason, String... codes) {
        for (String code : codes) {
            int bar = code.indexOf('|');
            check(code.replace("|", ""), reason, Probe.bytes(code.substring(0, bar)).length);
        }
    }

    private static String nops(int count) {
        return "90 ".repeat(count);
    }

    private static void unreadable() {
        fine("", "90", "f4");
        refused(1, "|0f 0b", "90 |cc", "|b8", "|b8 00 00 00", "90 |e9 00 00 00", "|81 e0 ff ff", "40 |0f", "|ff d8", "|0f a3 00",
            "|8d c0");
        refused(6, "|eb 00 cc", "|eb 00 b8");
        refused(3, "|50 cc");
        refused(1, "|cc 50");
    }

    private static void bundles() {
        fine(nops(31) + "90", nops(30) + "89 c0", nops(27) + "b8 00 00 00 00 40");
        refused(2, nops(31) + "|89 c0", nops(28) + "|b8 00 00 00 00", nops(63) + "|eb 00", nops(31) + "|ff d0",
            nops(27) + "|8b 80 00 00 02 00", nops(31) + "|ff 20");
        refused(1, nops(31) + "|89");
    }

    private static void stacks() {
        refused(3, "|50", "|57", "|58", "|68 00 00 00 00", "|6a 00", "|ff 30", "|ff f0", "|e8 00 00 00 00", "|ff 10", "|ff d0",
            "|c3", "|ff 20", "|ff 25 00 00 02 00", "|ff 35 00 00 02 00", AND_EAX + "|ff a0 00 00 02 00");
    }

    private static void alone() {
        fine("8b 05 00 00 02 00", "8b 05 fc ff 02 00", "8a 05 ff ff 02 00", "88 05 ff ff 02 00", "c6 05 ff ff 02 00 01",
            "0f b6 05 ff ff 02 00", "0f be 05 ff ff 02 00", "0f 94 05 ff ff 02 00", "0f 44 05 fc ff 02 00", "8d 05 00 00 00 00", "8d 00",
            "8d 04 24", "8d 84 88 ff ff ff ff");
        refused(4, "|8b 05 ff ff 01 00", "|8b 05 fd ff 02 00", "|8a 05 00 00 03 00", "|8b 05 00 00 00 80", "|8b 05 ff ff ff ff",
            "|8b 05 ff ff ff 7f", "|8b 04 25 00 00 02 00", "|c7 05 fd ff 02 00 00 00 00 00", "|0f 44 05 fd ff 02 00", "|8b 00", "|01 00", "|39 00", "|85 00",
            "|f7 20", "|f7 38", "|c1 20 00", "|d1 20", "|d3 20", "|ff 00", "|ff 08", "|87 00", "|0f af 00", "|0f 94 00", "|c6 00 00",
            "|83 38 00", "|8b 80 00 00 02 00", "|8b 44 24 00", "|8b 84 20 00 00 02 00");
    }

    private static void masked() {
        fine(AND_EAX + "0f b6 80 00 00 02 00", "81 e0 fc ff 00 00 " + LOAD, "83 e0 7f " + LOAD, "83 e0 00 " + LOAD,
            "81 e0 f0 ff 00 00 89 88 0c 00 02 00", "81 e5 00 00 00 00 8b 85 fc ff 02 00", "83 e6 10 8b 86 ec ff 02 00",
            "81 e0 00 00 00 00 c7 80 fc ff 02 00 00 00 00 00", "81 e0 fc ff 00 00 " + LOAD.replace("8b", "3b") + LOAD);
        refused(4, AND_EAX + "|" + LOAD, "81 e0 fd ff 00 00 |" + LOAD, "81 e0 00 00 01 00 |" + LOAD, "81 e0 ff ff ff ff |" + LOAD,
            "83 e0 ff |" + LOAD, "83 e0 80 |" + LOAD, "81 e1 fc ff 00 00 |" + LOAD, "21 c8 |" + LOAD, "83 e0 7f |8b 40 7f", "83 e0 7f |8b 00",
            "83 e0 7f |8b 80 ff ff 01 00", "83 e0 10 |8b 80 ed ff 02 00", "83 e0 7f |8b 80 ff ff ff 7f", "83 e0 7f |8b 84 20 00 00 02 00",
            "83 e4 7f |8b 84 24 00 00 02 00", "81 e0 fc ff 00 00 |89 80 04 00 02 00", "83 c8 7f |" + LOAD, "83 e8 7f |" + LOAD);
    }

    /** Instructions and the registers that they write, in part too; all others keep their MASKS. */
    private static final String[][] WRITERS = {
        {"01 ca", "2"}, {"03 ca", "1"}, {"39 ca", ""}, {"3b ca", ""}, {"09 ca", "2"}, {"0b ca", "1"}, {"11 ca", "2"}, {"1b ca", "1"},
        {"21 ca", "2"}, {"23 ca", "1"}, {"29 ca", "2"}, {"33 ca", "1"}, {"01 0d 00 00 02 00", ""}, {"03 0d 00 00 02 00", "1"},
        {"81 c2 00 00 00 00", "2"}, {"81 e2 00 00 01 00", "2"}, {"81 e2 ff ff ff ff", "2"}, {"81 fa 00 00 00 00", ""}, {"83 c2 00", "2"},
        {"83 e2 ff", "2"}, {"83 fa 00", ""}, {"83 25 00 00 02 00 00", ""}, {"43", "3"}, {"4e", "6"}, {"ff c3", "3"}, {"ff cf", "7"}, {"ff 05 00 00 02 00", ""},
        {"ff 0d 00 00 02 00", ""}, {"85 ca", ""}, {"f7 c2 00 00 00 00", ""}, {"f7 d3", "3"}, {"f7 db", "3"}, {"f7 15 00 00 02 00", ""},
        {"f7 1d 00 00 02 00", ""}, {"f7 e3", "0 2"}, {"f7 eb", "0 2"}, {"f7 f3", "0 2"}, {"f7 fb", "0 2"}, {"f7 25 00 00 02 00", "0 2"},
        {"0f af ca", "1"}, {"c1 e3 00", "3"}, {"c1 c3 05", "3"}, {"d1 eb", "3"}, {"d3 fb", "3"}, {"c1 25 00 00 02 00 01", ""}, {"0f a3 ca", ""}, {"99", "2"},
        {"0f cb", "3"}, {"89 ca", "2"}, {"8b ca", "1"}, {"89 0d 00 00 02 00", ""}, {"88 ca", "2"}, {"88 ce", "2"}, {"88 ea", "2"}, {"8a ca", "1"}, {"8a ea", "1"}, {"8a ee", "1"},
        {"88 0d 00 00 02 00", ""}, {"8a 2d 00 00 02 00", "1"}, {"bb 00 00 00 00", "3"}, {"c7 c3 00 00 00 00", "3"}, {"c7 05 00 00 02 00 00 00 00 00", ""},
        {"c6 c3 00", "3"}, {"c6 c7 00", "3"}, {"c6 05 00 00 02 00 00", ""}, {"87 ca", "1 2"}, {"87 0d 00 00 02 00", "1"}, {"8d 0a", "1"},
        {"0f b6 ca", "1"}, {"0f b6 ce", "1"}, {"0f b6 f2", "6"}, {"0f be ca", "1"}, {"0f be fe", "7"}, {"0f 40 ca", "1"}, {"0f 4f 0d 00 00 02 00", "1"}, {"0f 92 c3", "3"},
        {"0f 92 c7", "3"}, {"0f 92 05 00 00 02 00", ""}, {"90", ""}, {"f4", ""}, {"eb 7f", ""}, {"e9 00 01 00 00", ""}, {"72 7f", ""}, {"0f 82 00 01 00 00", ""},
    };

    private static void writers() {
        for (String[] row : WRITERS) {
            for (int r = 0; r < 8; r++) {
                boolean writes = row[1].contains(Integer.toString(r));
                String code = String.format("83 %02x 7f ", 0xE0 + r) + row[0];
                String use = String.format("8b %02x 00 00 02 00", 0x80 + r);
                if (r != 4) {
                    check(code + use, writes ? 4 : 0, writes ? Probe.bytes(code).length : -1);
                }
            }
        }
    }

    private static void masksThatEnd() {
        refused(4, "83 e2 7f 99 |8b 82 00 00 02 00", "83 e2 7f f7 e1 |8b 82 00 00 02 00", "83 e2 7f f7 f9 |8b 82 00 00 02 00");
        refused(4, "83 e0 7f " + nops(29) + "|" + LOAD, nops(29) + "83 e0 7f |" + LOAD);
        refused(4, "83 e0 7f eb 00 |" + LOAD, "74 03 83 e0 7f |" + LOAD, "83 e0 7f |" + LOAD + "eb f8", "83 e0 7f 90 |" + LOAD + "0f 84 f4 ff ff ff");
        // the GOAL of a jmp that is itself refused, as it stands in two BUNDLES
        refused(4, "83 e0 7f 90 |" + LOAD + nops(21) + "74 e3");
    }

    private static void masksThatStay() {
        fine("83 e1 7f f7 e3 8b 81 00 00 02 00", "83 e0 7f " + nops(23) + LOAD);
        fine("eb 00 83 e0 7f " + LOAD);
        refused(6, "83 e0 7f " + LOAD + "|eb fb");
        refused(6, "|eb 04 83 e0 7f " + LOAD);
    }

    private static void wildJumps() {
        fine(GO, nops(18) + GO, "eb 00 " + GO, GO.replace("e0 ff 00 00", "00 00 00 00"), GO.replace("e0 ff 00 00", "20 00 00 00"),
            GO.replace("e1", "e7").replace("c1", "c7"));
        refused(5, "|ff e0", "81 c0 00 00 01 00 |ff e0", "81 c1 00 00 01 00 |ff e1", nops(20) + "81 e1 e0 ff 00 00 81 c1 00 00 01 00 |ff e1");
        refused(5, "81 e1 e1 ff 00 00 81 c1 00 00 01 00 |ff e1", "81 e1 10 00 00 00 81 c1 00 00 01 00 |ff e1",
            "81 e1 00 00 01 00 81 c1 00 00 01 00 |ff e1", "81 e1 e0 ff ff ff 81 c1 00 00 01 00 |ff e1",
            "83 e1 20 81 c1 00 00 01 00 |ff e1", "81 e1 e0 ff 00 00 81 c1 00 00 02 00 |ff e1",
            "81 e1 e0 ff 00 00 83 c1 00 |ff e1", "81 e0 e0 ff 00 00 81 c1 00 00 01 00 |ff e1",
            "81 e1 e0 ff 00 00 81 c0 00 00 01 00 |ff e1", "81 e1 e0 ff 00 00 81 c1 00 00 01 00 |ff e0",
            "81 e1 e0 ff 00 00 90 81 c1 00 00 01 00 |ff e1", "81 e1 e0 ff 00 00 81 c1 00 00 01 00 90 |ff e1",
            "81 e1 e0 ff 00 00 81 e9 00 00 01 00 |ff e1", "81 c9 e0 ff 00 00 81 c1 00 00 01 00 |ff e1",
            "81 c1 00 00 01 00 81 e1 e0 ff 00 00 |ff e1", "81 e1 e0 ff 00 00 81 c1 00 00 01 00 81 c1 00 00 01 00 |ff e1");
        refused(5, "eb 06 81 e1 e0 ff 00 00 81 c1 00 00 01 00 |ff e1", "eb 0c 81 e1 e0 ff 00 00 81 c1 00 00 01 00 |ff e1",
            "81 e1 e0 ff 00 00 81 c1 00 00 01 00 |ff e1 eb fc");
        refused(5, nops(26) + "81 e1 e0 ff 00 00 81 c1 00 00 01 00 |ff e1", nops(20) + "81 e1 e0 ff 00 00 81 c1 00 00 01 00 |ff e1");
        refused(2, nops(19) + "81 e1 e0 ff 00 00 81 c1 00 00 01 00 |ff e1", nops(21) + "81 e1 e0 ff 00 00 |81 c1 00 00 01 00 ff e1");
    }

    private static void goals() {
        fine("eb fe", "eb 00", "eb 00 90", "eb 7f", "e9 00 00 00 00", "e9 fa ff 00 00", "70 fe", "0f 8f 00 00 00 00", "90 eb fd",
            "e9 02 00 00 00 89 c0 90");
        refused(6, "|eb 01 89 c0", "|eb fd", "|eb ff", "|e9 fb ff 00 00", "|e9 00 00 00 80", "|e9 ff ff ff 7f", "|74 01 89 c0",
            "|0f 84 01 00 00 00 89 c0", "89 c0 |eb fd", "|eb 02 89 c0 cc");
        refused(6, "b8 00 00 00 00 90 |eb fb", "|eb 1e " + nops(29) + "b8 00 00 00 00", "|74 3e " + nops(61) + "89 c0");
    }

    private static void edges() {
        P.fresh();
        P.code("90 c3");
        int[] none = {-1, 2, Integer.MIN_VALUE, Integer.MAX_VALUE};
        for (int what : none) {
            P.due("check " + what, P.house.check(what), -1);
        }
        P.due("check 0", P.house.check(0), 3);
        P.due("check 1", P.house.check(1), 1);
        P.due("run", P.house.run(1), 1);
        P.due("check again", P.house.check(0), 3);
        P.due("eip", P.house.get(9), 65537);
        P.code("81 e0 e0 ff 00 00 83 e1 7f");
        P.due("check of an and", P.house.check(0), 0);
        P.code("81 c0 00 00 01 00 ff e0");
        P.due("nothing of a code that was", P.house.check(0), 5);
        P.code("8b 81 00 00 02 00");
        P.due("no MASK of a code that was", P.house.check(0), 4);
        P.code("90 c3");
        P.grammar("a = {'x'}* / [yz] !'q' &'r' a;");
        P.due("check of what is placed, not of the GRAMMAR", P.house.check(0), 3);
        P.due("arm", P.house.arm(0, 5), true);
        P.due("check of a PROGRAM's IMAGE", P.house.check(0), 0);
        P.due("check of a PROGRAM's IMAGE", P.house.check(1), -1);
    }
}
