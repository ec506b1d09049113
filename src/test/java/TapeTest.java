/** Promises 1 (a new object), 2 (feed), 3 (end), 6 (count) and 11 (subject). */
public final class TapeTest {
    private static final Probe P = new Probe();

    public static void main(String[] args) {
        newObject();
        feeding();
        ending();
        counting();
        theSubject();
        P.finish();
    }

    private static void newObject() {
        P.fresh();
        P.due("NONE", MatchHouse.NONE, -1);
        for (int what = 0; what <= 7; what++) {
            P.due("count " + what, P.house.count(what), 0);
        }
        for (int what = 0; what <= 10; what++) {
            P.due("get " + what, P.house.get(what), what == 9 ? 65536 : 0);
        }
        for (int at = 0; at <= 65532; at += 508) {
            P.due("load " + at, P.house.load(at), 0);
        }
        P.due("fault 0", P.house.fault(0), -1);
        P.due("fault 1", P.house.fault(1), -1);
        P.due("fault 2", P.house.fault(2), -1);
        P.due("rule", P.house.rule(0, 0), -1);
        P.due("program", P.house.program(0, 0), -1);
        P.due("set", P.house.set(0, 0), 0);
        P.due("image", P.house.image(0), -1);
        P.due("arm", P.house.arm(0, 1), false);
        P.due("match", P.house.match(0, 1), -1);
        P.due("peak", P.house.peak(), 0);
        P.due("event", P.house.event(0, 0), -1);
        P.due("check 0", P.house.check(0), 0);
        P.due("check 1", P.house.check(1), -1);
        P.due("run", P.house.run(5), 0);
        P.due("STOP at the HLT behind an empty IMAGE", P.house.get(10), 1);
    }

    private static void feeding() {
        P.fresh();
        P.due("feed", P.house.feed(0x01020304, -2, 0x7F000080, 0, 0x0A0B0C0D), 20);
        P.due("count 6", P.house.count(6), 20);
        P.due("place", P.house.place(), 20);
        for (int k = 1; k <= 200; k++) {
            P.due("feed " + k, P.house.feed(k, k, k, k, k), 20 * k);
        }
        P.due("feed beyond", P.house.feed(1, 2, 3, 4, 5), -1);
        P.due("count 6", P.house.count(6), 4000);
        P.due("end", P.house.end(3981), 3981);
        P.due("feed beyond by one", P.house.feed(1, 2, 3, 4, 5), -1);
        P.due("count 6", P.house.count(6), 3981);
        P.due("end", P.house.end(3980), 3980);
        P.due("feed to the end", P.house.feed(1, 2, 3, 4, 5), 4000);

        P.fresh();
        P.due("grammar of a=[0-9]; in numbers", feedNumbers(0x613d5b30, 0x2d395d3b), 1);
        P.due("FIRST", P.house.rule(0, 5), 0x03FF0000);
        P.tape("xyz");
        P.due("what end cut off is gone", P.house.end(1), 1);
        P.house.feed(0x61626364, 0, 0, 0, 0);
        P.house.end(5);
        P.house.subject();
        P.grammar("a = 'xabcd';");
        P.due("match", P.house.match(0, 9), 5);
    }

    private static int feedNumbers(int a, int b) {
        P.house.feed(a, b, 0, 0, 0);
        P.house.end(8);
        return P.house.grammar();
    }

    private static void ending() {
        P.fresh();
        P.due("end 0 of none", P.house.end(0), 0);
        P.due("end 1 of none", P.house.end(1), -1);
        P.house.feed(0, 0, 0, 0, 0);
        P.due("end 21", P.house.end(21), -1);
        P.due("end -1", P.house.end(-1), -1);
        P.due("end least", P.house.end(Integer.MIN_VALUE), -1);
        P.due("end most", P.house.end(Integer.MAX_VALUE), -1);
        P.due("count 6", P.house.count(6), 20);
        P.due("end 20", P.house.end(20), 20);
        P.due("end 7", P.house.end(7), 7);
        P.due("end 8", P.house.end(8), -1);
        P.due("count 6", P.house.count(6), 7);
    }

    private static void counting() {
        P.fresh();
        P.grammar("a = {b} {[xy]}; b = 'q';");
        int[] want = {2, 11, 1, 0, 2, 0, 0, 0};
        for (int what = 0; what <= 7; what++) {
            if (what != 3) {
                P.due("count " + what, P.house.count(what), want[what]);
            }
        }
        P.due("the IMAGE's last byte", P.house.image(P.house.count(3) - 1), 0xF4);
        P.due("behind it", P.house.image(P.house.count(3)), -1);
        P.subject("qx?");
        P.tape("ab");
        P.due("count 5", P.house.count(5), 3);
        P.due("count 6", P.house.count(6), 2);
        P.due("place", P.house.place(), 2);
        P.due("count 6", P.house.count(6), 0);
        P.due("count 7", P.house.count(7), 2);
        P.due("arm", P.house.arm(0, 10), true);
        P.due("count 7", P.house.count(7), P.house.count(3));
        P.due("count -1", P.house.count(-1), -1);
        P.due("count 8", P.house.count(8), -1);
        P.due("count least", P.house.count(Integer.MIN_VALUE), -1);
    }

    private static void theSubject() {
        P.fresh();
        P.grammar("a = .*;");
        P.due("of an empty tape", P.house.subject(), 0);
        P.due("match", P.house.match(0, 5), 0);
        byte[] bytes = new byte[4000];
        for (int i = 0; i < bytes.length; i++) {
            bytes[i] = (byte) i;
        }
        P.tape(bytes);
        P.due("subject", P.house.subject(), 4000);
        P.due("tape", P.house.count(6), 0);
        P.due("count 5", P.house.count(5), 4000);
        P.due("match", P.house.match(0, 5), 4000);
        P.due("match", P.house.match(3999, 5), 1);
        P.due("match", P.house.match(4000, 5), 0);
        P.due("match", P.house.match(4001, 5), -1);
        P.due("subject, now empty", P.house.subject(), 0);
        P.due("count 5", P.house.count(5), 0);
    }
}
