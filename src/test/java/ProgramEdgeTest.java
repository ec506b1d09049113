import java.util.function.IntFunction;

/** Edges of Part II (FAULTS 2 to 5), IV and VII, promises 4 to 10: the limits of the PROGRAM, its SETS and its IMAGE. */
public final class ProgramEdgeTest {
    private static final Probe P = new Probe();

    public static void main(String[] args) {
        names();
        leftRules();
        emptyLoops();
        orderOfKinds();
        eachByteInCommon();
        manyGrammars();
        instructionLimit();
        setLimit();
        setsInData();
        imageLimit();
        manyRules();
        manyCaptures();
        longAndDeepTexts();
        P.finish();
    }

    private static void fine(String text, int rules) {
        P.fresh();
        P.due("grammar " + text, P.grammar(text), rules);
        P.due("kind " + text, P.house.fault(0), 0);
        P.due("place " + text, P.house.fault(1), -1);
    }

    /** In a house with a GRAMMAR, that stays. */
    private static void fault(String text, int kind, int place) {
        P.fresh();
        P.grammar("k = {[pq]} 'r';");
        P.due("grammar " + text, P.grammar(text), -1);
        P.due("kind " + text, P.house.fault(0), kind);
        P.due("place " + text, P.house.fault(1), place);
        int[] counts = {1, 7, 1, 422, 1, 0, 0, 0};
        for (int what = 0; what < counts.length; what++) {
            P.due("count " + what + " behind " + text, P.house.count(what), counts[what]);
        }
        P.due("SET 0 behind " + text, P.house.set(0, 3), 3 << 16);
        P.due("the r behind " + text, P.house.program(5, 1), 'r');
        P.due("its place behind " + text, P.house.program(5, 3) > 0, true);
        P.due("the IMAGE's first behind " + text, P.house.image(0), 0x89);
        P.due("the IMAGE's last behind " + text, P.house.image(421), 0xF4);
        P.due("behind it behind " + text, P.house.image(422), -1);
    }

    private static void faults(int kind, String... texts) {
        for (String text : texts) {
            int place = text.indexOf('@');
            fault(text.substring(0, place) + text.substring(place + 1), kind, place);
        }
    }

    /** "2 the first NAME along the text that is a RULE's for the second time, or .. is no RULE's." */
    private static void names() {
        faults(2, "a=;b=;@a=;", "a=;@a=;a=;", "a=@b;a=;a=;", "a=;b=@c;a=;", "a=;@a=c;", "a=(({&!@b}))^2;", "a=a1 @a2;a1=;a3=;",
            "a=;a1=;a11=;@a1=;", "x=@y;", "a = 'y' / [b] @b;", "a=;# a=;\nb=; # c\n @a=;", "a=@aa;", "aa=@a;");
        fine("a=;aa=;aaa=;A=;_a=;a_=;a0=;a00=;", 8);
        fine("a=b;b=c;c=;", 3);
    }

    /** "3 the first RULE that is LEFT, at its NAME's first byte." */
    private static void leftRules() {
        faults(3, "@a=a;", "b=a;@a=a;", "b=.;c=b;@d=e;e=d;", "@a=b;b=c;c=a;", "a=b;@b=c;c=b;", "@a=.?a;", "@a=.*a;", "@a=''a;", "@a=&.a;", "@a=!.a;",
            "@a=&a;", "@a=!!a;", "@a={}a;", "@a=()^9a;", "@a=.?^9a;", "@a=b a;b=c;c=.?;", "@a=(.*/.)a;", "@a=(a)^1;", "@a=./.a/a;", "@a=a?;", "@a={a}+;",
            "@a=(.?(.?(.?a)));", " @a=&(.a)a;", "@a=&(!a.).;", "@a=.?(./.a/{b}.);b=a;");
        fine("a=.a?;", 1);
        fine("a=.+a/.;", 1);
        fine("a=(./.)a/;", 1);
        fine("a=&.(.a)?;", 1);
        fine("a=(.? .)a/;", 1);
        fine("a={.}^2a/;", 1);
        fine("a=b a/;b=.c;c=.?;", 3);
        for (int last : new int[] {0, 7, 59}) {
            StringBuilder chain = new StringBuilder();
            StringBuilder cut = new StringBuilder();
            for (int k = 0; k < 60; k++) {
                int next = k == 59 ? last : k + 1;
                chain.append("r").append(k).append("=.?r").append(next).append(";");
                cut.append("r").append(k).append(k == 59 ? "=.r" : "=.?r").append(next).append("?;");
            }
            fault(chain.toString(), 3, chain.indexOf("r" + last + "="));
            fine(cut.toString(), 60);
        }
    }

    /** "4 the first * or + along the text, that stands behind what is NULLABLE." */
    private static void emptyLoops() {
        faults(4, "a=''@*;", "a=()@+;", "a=.?@*;", "a=.*@*;", "a=.*@+;", "a=.+?@+;", "a={}@*;", "a=(&.)@*;", "a=(!.)@+;", "a=.?^9@*;", "a=(.?.*)@*;",
            "a=(./)@*;", "a=b@*;b=.?;", "a=b@+;b=c;c=&.;", "a=((.?)@*)*;", "a=((.?)@+ .)* (.?)*;", "a=.+ .* (.)+ b@* ''*;b=;", "a=.;b=.?@*;c=''*;",
            "a=.? \n@*;", "a=''#*\n@*;", "a=(.?){.?}^1@+;", "a=&.?@*;", "a=!(.?)@*;");
        fine("a=.*.+;", 1);
        fine("a=.++;", 1);
        fine("a=(.?.)*;", 1);
        fine("a=(&..)*;", 1);
        fine("a=&.*!.+;", 1);
        fine("a=b*;b=.?.;", 2);
        fine("a=.*? .+? .*^2;", 1);
        fine("a=[]*;", 1);
    }

    /** "A kind of a lesser number comes ahead of others." */
    private static void orderOfKinds() {
        String large = "z=" + ".".repeat(2100) + ";";
        String loop = "y=''*;";
        String leftOne = "x=x;";
        String name = "w=q;";
        String all = large + loop + leftOne + name;
        fault(all + "v", 1, all.length() + 1);
        fault(all, 2, all.indexOf("q;"));
        fault(large + loop + leftOne, 3, all.indexOf("x=x"));
        fault(large + loop, 4, all.indexOf("*"));
        fault(large, 5, large.length());
    }

    /** "their FIRST have no byte in common": each byte alone can be the one; the next is not. */
    private static void eachByteInCommon() {
        for (int b = 0; b < 256; b++) {
            fine(String.format("a='\\x%02x'.'x'/'\\x%02x''y';", b, b), 1);
            P.due("a CHOICE with " + b + " in common", P.house.program(3, 0), 8);
            fine(String.format("a='\\x%02x'.'x'/'\\x%02x''y';", b, (b + 1) % 256), 1);
            P.due("none with " + b + " and the next", P.house.program(3, 0), 0);
            P.due("but a TEST", P.house.program(2, 1), b);
        }
    }

    /** A GRAMMAR is made the same, however many were ahead of it in the house. */
    private static void manyGrammars() {
        String text = "a=" + "&.".repeat(660) + ";";
        P.fresh();
        int size = 0;
        for (int k = 0; k < 7; k++) {
            P.due("grammar, time " + k, P.grammar(text), 1);
            P.due("instructions, time " + k, P.house.count(1), 1983);
            size = k == 0 ? P.house.count(3) : size;
            P.due("bytes, time " + k, P.house.count(3), size);
        }
    }

    /** "More than 2000 instructions .. too large", "(told at the text's length)". */
    private static void instructionLimit() {
        IntFunction<String> any = n -> "a=" + ".".repeat(n) + ";";
        IntFunction<String> power = n -> "a=(.^9^9^9)^2 .^9^9^6" + ".".repeat(n - 1944) + ";";
        IntFunction<String> spans = n -> "a=" + ".*".repeat(9) + ".".repeat(n - 9) + ";";
        IntFunction<String> options = n -> "a=" + ".?".repeat(100) + ".".repeat(n - 200) + ";";
        IntFunction<String> rules = n -> "a=" + ".".repeat(n - 61) + ";" + manyEmpty(59) + "# the end";
        int[] most = {1997, 1997, 1997, 1997, 1999};
        int k = 0;
        for (IntFunction<String> family : java.util.List.of(any, power, spans, options, rules)) {
            String last = family.apply(most[k]);
            String first = family.apply(most[k] + 1);
            fine(last, k == 4 ? 60 : 1);
            P.due("instructions of " + last, P.house.count(1), 2000);
            P.due("the last is a RET", P.house.program(1999, 0), 15);
            P.due("its place", P.house.program(1999, 3) > 0, true);
            P.due("none behind it", P.house.program(2000, 0), -1);
            P.due("none behind it", P.house.program(2000, 3), -1);
            fault(first, 5, first.length());
            k++;
        }
    }

    private static String manyEmpty(int count) {
        StringBuilder text = new StringBuilder();
        for (int i = 0; i < count; i++) {
            text.append("e").append(i).append("=;");
        }
        return text.toString();
    }

    /** "or 128 SETS"; "equal ones once": of SETS, of SPANS, of TESTSETS. */
    private static void setLimit() {
        IntFunction<String> sets = k -> String.format("[\\x%02x\\xff]", k);
        IntFunction<String> spans = k -> String.format("'\\x%02x'*", k);
        IntFunction<String> tests = k -> String.format("!('\\x%02x' ./'\\xff')", k);
        for (IntFunction<String> family : java.util.List.of(sets, spans, tests)) {
            StringBuilder text = new StringBuilder("a=");
            for (int k = 0; k < 127; k++) {
                text.append(family.apply(k));
            }
            fine(text + ";", 1);
            P.due("SETS of " + text, P.house.count(2), 127);
            P.due("SET 126", P.house.set(126, 3) >>> 30 & 1, 1);
            P.due("none", P.house.set(127, 3), 0);
            text.append(family.apply(127));
            fine(text + ";", 1);
            P.due("SETS of " + text, P.house.count(2), 128);
            P.due("SET 127", P.house.set(127, 3) >>> 31, 1);
            P.due("none behind", P.house.set(128, 3), 0);
            text.append(family.apply(0)).append(family.apply(127)).append(family.apply(64));
            fine(text + ";", 1);
            P.due("SETS of " + text, P.house.count(2), 128);
            String more = text + family.apply(128) + ";#";
            fault(more, 5, more.length());
        }
    }

    private static String classes(int count) {
        StringBuilder text = new StringBuilder("a=");
        for (int k = 0; k < count; k++) {
            text.append(String.format("[\\x%02x\\xff]", k));
        }
        return text.toString();
    }

    /** The SETS fill DATA up to where the SUBJECT's length stands. */
    private static void setsInData() {
        fine(classes(128) + ";", 1);
        byte[] subject = new byte[128];
        for (int k = 0; k < 128; k++) {
            subject[k] = (byte) (k % 3 == 0 ? 255 : k);
        }
        P.tape(subject);
        P.house.subject();
        P.due("arm", P.house.arm(0, 9), true);
        for (int k = 0; k < 128; k += k == 0 ? 126 : 1) {
            for (int w = 0; w < 8; w++) {
                int want = (w == k / 32 ? 1 << k % 32 : 0) | (w == 7 ? 1 << 31 : 0);
                P.due("SET " + k + " " + w, P.house.set(k, w), want);
                P.due("SET " + k + " " + w + " in DATA", P.house.load(4096 + 32 * k + 4 * w), want);
            }
        }
        P.due("the length behind them", P.house.load(8192), 128);
        P.due("none behind that", P.house.load(8196), 0);
        P.due("match", P.house.match(0, 9), 128);
        subject[127] = 126;
        P.tape(subject);
        P.house.subject();
        P.due("match of another last", P.house.match(0, 9), -2);
    }

    /**
     * "More than 61440 bytes: too large." An IMAGE ends six bytes behind a BUNDLE's beginning, so 61414 is the most
     * that is taken. With 37 CALLS less (96 bytes each) the same text shows how large it would be.
     */
    private static void imageLimit() {
        int taken = 0;
        int refused = 0;
        for (int k = 0; k < 40; k++) {
            String small = "a=" + "b ".repeat(600) + ";b=" + ".".repeat(k) + ";";
            String large = "a=" + "b ".repeat(637) + ";b=" + ".".repeat(k) + ";";
            fine(small, 2);
            int size = P.house.count(3) + 37 * 96;
            if (size <= 61440) {
                fine(large, 2);
                P.due("bytes", P.house.count(3), size);
                P.due("its last", P.house.image(size - 1), 0xF4);
                P.due("behind it", P.house.image(size), -1);
                P.due("arm", P.house.arm(0, 9), true);
                P.due("count 7", P.house.count(7), size);
                P.due("check", P.house.check(0), 0);
                taken += size == 61414 ? 1 : 0;
            } else {
                fault(large, 5, large.length());
                refused += size == 61446 ? 1 : 0;
            }
        }
        P.due("the last that is taken was seen", taken > 0, true);
        P.due("the first that is not was seen", refused > 0, true);
    }

    private static void manyRules() {
        StringBuilder text = new StringBuilder();
        for (int k = 0; k < 60; k++) {
            text.append(String.format("r%d = '\\x%02x' r%d / ;", k, 4 * k, (k + 1) % 60));
        }
        fine(text.toString(), 60);
        P.due("the last RULE is NULLABLE", P.house.rule(59, 0), 1);
        P.due("the last RULE's FIRST", P.house.rule(59, 4 + 236 / 32), 1 << 236 % 32);
        P.due("no RULE behind it", P.house.rule(60, 0), -1);
        for (int what = 3; what < 12; what++) {
            P.due("no RULE behind it", P.house.rule(60, what), -1);
        }
        P.due("its first instruction", P.house.program(P.house.rule(59, 3), 1), 236);
    }

    private static void manyCaptures() {
        StringBuilder text = new StringBuilder("a=");
        for (int k = 0; k < 400; k++) {
            text.append("{}");
        }
        fine(text + ";", 1);
        P.due("{", P.house.count(4), 400);
        P.due("match", P.house.match(0, 1000), 0);
        P.due("the last", P.house.event(799, 0), 399);
        P.due("closed", P.house.event(799, 1), 1);
        P.due("none behind", P.house.event(800, 0), -1);
        P.due("peak", P.house.peak(), 801);
        fine("a=" + "{".repeat(40) + "}".repeat(40) + "{};b={};", 2);
        P.due("{ of all RULES", P.house.count(4), 42);
    }

    /** What a text of 4000 bytes can have most of. */
    private static void longAndDeepTexts() {
        fine("a=" + "()".repeat(1998) + ";", 1);
        P.due("instructions", P.house.count(1), 3);
        fine("a=" + "''".repeat(1998) + ";", 1);
        P.due("instructions", P.house.count(1), 3);
        fine("a=[" + "x".repeat(3995) + "];", 1);
        P.due("instructions", P.house.count(1), 4);
        fine("a=" + "./".repeat(1998) + ".;", 1);
        P.due("all are one PLAIN", P.house.count(1), 4);
        fault("a=" + "/".repeat(3997) + ";", 5, 4000);
        fault("a='" + "x".repeat(3995) + "';", 5, 4000);
        fault("a=" + ".?".repeat(1998) + ";", 5, 3999);
        fault("a=" + "(".repeat(40) + ".?".repeat(1900) + ")^9^9^9" + ")".repeat(39) + ";", 5, 3889);
        fine("a=" + "(".repeat(40) + ")^9^9^9".repeat(40) + "(".repeat(40) + ")^9^9^9".repeat(40) + ";", 1);
        fine("a=(" + "()".repeat(1900) + ".)^9^9^9;", 1);
        P.due("instructions", P.house.count(1), 732);
    }
}
