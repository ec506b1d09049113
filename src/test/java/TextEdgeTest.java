/**
 * Edges of Part II, promises 4 and 5: each byte at each sort of place of a text, and each limit of a GRAMMAR with
 * the last that is taken and the first that is not.
 */
public final class TextEdgeTest {
    private static final Probe P = new Probe();
    private static int left;

    public static void main(String[] args) {
        blanks();
        namesFirstBytes();
        namesOtherBytes();
        literalBytes();
        classBytes();
        escapes();
        hexDigits();
        digits();
        items();
        comments();
        cases();
        ruleLimit();
        nameLimit();
        suffixLimit();
        nestLimit();
        nestingThatEnds();
        moreMustCome();
        P.finish();
    }

    /** A house is good for some texts. */
    private static int read(String text) {
        if (left == 0) {
            P.fresh();
            left = 20;
        }
        left--;
        return P.grammar(text);
    }

    private static void fine(String text, int rules) {
        P.due("grammar " + text, read(text), rules);
        P.due("kind " + text, P.house.fault(0), 0);
        P.due("place " + text, P.house.fault(1), -1);
    }

    private static void fault(String text, int kind, int place) {
        P.due("grammar " + text, read(text), -1);
        P.due("kind " + text, P.house.fault(0), kind);
        P.due("place " + text, P.house.fault(1), place);
    }

    /** MALFORMED where the text has its @, which is taken out. */
    private static void malformed(String... texts) {
        for (String text : texts) {
            int place = text.indexOf('@');
            fault(text.substring(0, place) + text.substring(place + 1), 1, place);
        }
    }

    private static boolean isLetter(int c) {
        return c >= 'a' && c <= 'z' || c >= 'A' && c <= 'Z' || c == '_';
    }

    private static boolean isBlank(int c) {
        return c == 9 || c == 10 || c == 13 || c == 32;
    }

    /** FIRST of the first RULE is this byte alone. */
    private static void dueFirst(String text, int b) {
        for (int w = 0; w < 8; w++) {
            P.due("FIRST " + w + " of " + text, P.house.rule(0, 4 + w), w == b / 32 ? 1 << b % 32 : 0);
        }
    }

    /** "BLANKS: bytes 9, 10, 13, 32, and what stands from a # on". */
    private static void blanks() {
        for (int c = 0; c < 256; c++) {
            String text = "a='x'" + (char) c + ";";
            boolean suffix = c == '?' || c == '*' || c == '+';
            boolean part = c == '.' || c == '/' || c == '&' || c == '!';
            if (isBlank(c) || suffix || c == '.' || c == '/' || c == 'i' || c == 'a') {
                fine(text, 1);
            } else if (c == ';') {
                fault(text, 1, 6);
            } else if (isLetter(c)) {
                fault(text, 2, 5);
            } else if (c == '#' || c == '\'' || c == '[') {
                fault(text, 1, 7);
            } else {
                fault(text, 1, part || c == '(' || c == '{' || c == '^' ? 6 : 5);
            }
        }
    }

    /** "NAME: a letter or _". */
    private static void namesFirstBytes() {
        for (int c = 0; c < 256; c++) {
            String text = (char) c + "=;";
            if (isLetter(c)) {
                fine(text, 1);
            } else {
                fault(text, 1, isBlank(c) ? 1 : c == '#' ? 3 : 0);
            }
        }
    }

    /** "then letters, digits, _". */
    private static void namesOtherBytes() {
        for (int c = 0; c < 256; c++) {
            String text = "q" + (char) c + "=;";
            if (isLetter(c) || c >= '0' && c <= '9' || isBlank(c)) {
                fine(text, 1);
            } else {
                fault(text, 1, c == '#' ? 4 : c == '=' ? 2 : 1);
            }
        }
    }

    /** "A BYTE: 32 to 126 but 39 and \ (in a LITERAL)". */
    private static void literalBytes() {
        for (int c = 0; c < 256; c++) {
            String text = "a='" + (char) c + "';";
            if (c >= 32 && c <= 126 && c != 39 && c != '\\') {
                fine(text, 1);
                dueFirst(text, c);
            } else {
                fault(text, 1, c == 39 ? 6 : c == '\\' ? 6 : 3);
            }
        }
    }

    /** "but ] \ and - (in a CLASS; a ^ right behind the [ is no BYTE)". */
    private static void classBytes() {
        for (int c = 0; c < 256; c++) {
            String alone = "a=[" + (char) c + "];";
            String behind = "a=[^^" + (char) c + "];";
            boolean stands = c >= 32 && c <= 126 && c != ']' && c != '\\' && c != '-';
            if (stands) {
                fine(alone, 1);
                if (c == '^') {
                    P.due("all bytes", P.house.rule(0, 4), -1);
                    P.due("all bytes", P.house.rule(0, 6), -1);
                } else {
                    dueFirst(alone, c);
                }
                fine(behind, 1);
                for (int w = 0; w < 8; w++) {
                    int none = ('^' / 32 == w ? 1 << '^' % 32 : 0) | (c / 32 == w ? 1 << c % 32 : 0);
                    P.due("FIRST " + w + " of " + behind, P.house.rule(0, 4 + w), ~none);
                }
            } else if (c == ']' || c == '\\') {
                fault(alone, 1, c == ']' ? 4 : 6);
                fault(behind, 1, c == ']' ? 6 : 8);
            } else {
                fault(alone, 1, 3);
                fault(behind, 1, c == '-' ? 6 : 5);
            }
        }
    }

    /** "\n \t \r are 10, 9, 13; .. \ ahead of one of ' ] - \ ^ is that one". */
    private static void escapes() {
        for (int c = 0; c < 256; c++) {
            int b = c == 'n' ? 10 : c == 't' ? 9 : c == 'r' ? 13 : "']-\\^".indexOf(c) >= 0 ? c : -1;
            String inLiteral = "a='\\" + (char) c + "';";
            String inClass = "a=[\\" + (char) c + "];";
            if (b >= 0) {
                fine(inLiteral, 1);
                dueFirst(inLiteral, b);
                fine(inClass, 1);
                dueFirst(inClass, b);
            } else {
                fault(inLiteral, 1, c == 'x' ? 5 : 4);
                fault(inClass, 1, c == 'x' ? 5 : 4);
            }
        }
    }

    /** "\x and two of 0 .. 9 a .. f the byte of that number". */
    private static void hexDigits() {
        for (int c = 0; c < 256; c++) {
            int digit = c < 128 ? "0123456789abcdef".indexOf(c) : -1;
            String first = "a='\\x" + (char) c + "7';";
            String second = "a=[\\xc" + (char) c + "];";
            if (digit >= 0) {
                fine(first, 1);
                dueFirst(first, 16 * digit + 7);
                fine(second, 1);
                dueFirst(second, 192 + digit);
            } else {
                fault(first, 1, 5);
                fault(second, 1, 6);
            }
        }
        for (int b = 0; b < 256; b++) {
            String text = String.format("a = '\\x%02x';", b);
            fine(text, 1);
            dueFirst(text, b);
        }
    }

    /** "DIGIT: 1 to 9, right behind the ^." */
    private static void digits() {
        for (int c = 0; c < 256; c++) {
            String text = "a=.^" + (char) c + ";";
            if (c >= '1' && c <= '9') {
                fine(text, 1);
                P.due("instructions of " + text, P.house.count(1), 3 + c - '0');
            } else {
                fault(text, 1, 4);
            }
        }
        malformed("a=.^1@0;", "a=.^9@9;", "a=.^@ 1;", "a=.^@\n1;", "a=.^@#\n1;", "a=.^@^1;");
    }

    /** "two with - between, the second not below the first". */
    private static void items() {
        int[] firsts = {1, 2, 10, 13, 31, 32, 33, 45, 64, 92, 93, 126, 127, 128, 254, 255};
        for (int low : firsts) {
            fault(String.format("a=[\\x%02x-\\x%02x];", low, low - 1), 1, 8);
            fault(String.format("a=[x\\x%02x-\\x00y];", low), 1, 9);
            String same = String.format("a=[\\x%02x-\\x%02x];", low, low);
            fine(same, 1);
            dueFirst(same, low);
            if (low < 255) {
                String two = String.format("a=[\\x%02x-\\x%02x];", low, low + 1);
                fine(two, 1);
                int bits = 0;
                for (int w = 0; w < 8; w++) {
                    bits += Integer.bitCount(P.house.rule(0, 4 + w));
                }
                P.due("two bytes in " + two, bits, 2);
                P.due("the upper one of " + two, P.house.rule(0, 4 + (low + 1) / 32) >> (low + 1) % 32 & 1, 1);
            }
        }
        fine("a=[\\x00-\\xff];", 1);
        for (int w = 0; w < 8; w++) {
            P.due("all bytes " + w, P.house.rule(0, 4 + w), -1);
        }
        malformed("a=[b-@a];", "a=[\\]-@\\\\];", "a=[~-@}];", "a=[z-@\\n];", "a=[\\xff-@~];", "a=[!-@ ];", "a=[ab-cz-@a];", "a=[^b-@a];");
        fine("a=[ -~!-~a-a\\\\-\\]\\--.\\^-_];", 1);
        malformed("a=[A-@];", "a=[A-@]", "a=[+-@-];", "a=[+-@-", "a=[\\x00-@];");
        fine("a=[ -'];", 1);
        P.due("from the blank to the '", P.house.rule(0, 5), 255);
        malformed("a=[@-a];", "a=[a-@];", "a=[a-b@-c];", "a=[a-@-b];", "a=[a@\t-b];", "a=[a-@\tb];");
        fine("a=[a -b];", 1);
        P.due("from the blank to b", P.house.rule(0, 5), -1);
    }

    /** "what stands from a # up to the next byte 10 or the end". */
    private static void comments() {
        fine("#\na=;", 1);
        fine("#a=;\n#b=;\nc=;#", 1);
        fine("a=;#\r b=;", 1);
        fine("a=;#\u000b\u000c\u0085\u0000 b=;", 1);
        fine("a=;#\n b=;", 2);
        fine("a=;##\n#\nb=;", 2);
        fine("a=.#\n?#x\n;", 1);
        fine("a#\n=#\n(#\n.#\n)#\n;", 1);
        fine("a='#';", 1);
        fine("a=[#];", 1);
        malformed("#@", "#\n@", "a=#;@", "a='#@\n';", "a=[#@\n];");
        fault("a#b\nc=;", 1, 4);
    }

    /** "an i right behind it belongs to it"; "with i a letter and the same one of the other case, both". */
    private static void cases() {
        for (int c = 32; c < 127; c++) {
            if (c != 39 && c != '\\') {
                String text = "a='" + (char) c + "'i;";
                fine(text, 1);
                boolean letter = isLetter(c) && c != '_';
                for (int w = 0; w < 8; w++) {
                    int want = (c / 32 == w ? 1 << c % 32 : 0) | (letter && (c ^ 32) / 32 == w ? 1 << (c ^ 32) % 32 : 0);
                    P.due("FIRST " + w + " of " + text, P.house.rule(0, 4 + w), want);
                }
            }
        }
        fine("a=''i'x'i;", 1);
        fault("a='x' i;", 2, 6);
        fault("a='x'\ni;", 2, 6);
        fault("a='x'ii;", 2, 6);
        fault("a='x'I;", 2, 5);
        fault("a=[x]i;", 2, 5);
        fault("a='x'i2;", 1, 6);
        fault("a=[b]b;", 2, 5);
    }

    /** "GRAMMAR: { RULE }, 1 to 60"; "a 61st RULE at its first byte". */
    private static void ruleLimit() {
        malformed("@", " @", "\t\r\n @", "# @");
        fine("a=;", 1);
        StringBuilder rules = new StringBuilder();
        for (int k = 1; k <= 60; k++) {
            rules.append("r").append(k).append("=;");
            fine(rules.toString(), k);
            P.due("RULES", P.house.count(0), k);
            P.due("the last", P.house.rule(k - 1, 3), 2 + k - 1);
            P.due("behind it", P.house.rule(k, 3), -1);
        }
        malformed(rules + "@s=;", rules + " \n@s=;", rules + "@1", rules + "@;", rules + "#c\n@s", rules + "@\u0000");
        fine(rules + " \t\n\r#=;", 60);
    }

    /** "20 at most"; "a NAME too long at its 21st byte". */
    private static void nameLimit() {
        for (int length = 1; length <= 24; length++) {
            String name = "n".repeat(length);
            boolean taken = length <= 20;
            String asRule = name + "=;";
            String asPart = "q=" + name + ";" + (taken ? name + "='x';" : "");
            if (taken) {
                fine(asRule, 1);
                fine(asPart, 2);
            } else {
                fault(asRule, 1, 20);
                fault(asPart, 1, 22);
            }
        }
        String twenty = "_aZ09bcdefghijklmnop";
        fine(twenty + "=.;b=" + twenty + ";", 2);
        malformed(twenty + "@0=;", twenty + "@_", "a=" + twenty + "@q;", "a=(" + twenty + "@1");
        fine("a=" + twenty + "." + twenty + ";" + twenty + "=.;", 2);
        fault(twenty + "=.;b=" + twenty.substring(0, 19) + ";", 2, 25);
        fault(twenty + "=.;b=" + twenty.substring(0, 19) + "q;", 2, 25);
        fault(twenty + "=.;b=" + twenty.toLowerCase() + ";", 2, 25);
    }

    /** "at most 3 of these"; "a suffix .. too many at it". */
    private static void suffixLimit() {
        String[] suffixes = {"?", "*", "+", "^1"};
        for (String fourth : suffixes) {
            malformed("a=.???@" + fourth + ";", "a=.+++@" + fourth + ";", "a=.^1^1^1@" + fourth + ";", "a=.+^2? @" + fourth + ";",
                "a=.? ?\n?#\n@" + fourth, "a=.^9^9^9@" + fourth + ";");
            fine("a=.^1^2" + fourth + ";", 1);
            fine("a=.^1^1^1." + fourth + ";", 1);
            fine("a=(.^1^1^1)" + fourth + ";", 1);
        }
        fine("a=.???;", 1);
        fine("a=.+++;", 1);
        fine("a=(((.+++)+++)+++)?;", 1);
        fine("a=&.+++!.+++;", 1);
        malformed("a=&.+++@+;", "a={.}+++@+;", "a=b???@?;");
    }

    /** "&, !, ( and { are at most 40 within one another": the 41st of each is MALFORMED at it. */
    private static void nestLimit() {
        String[] openers = {"&", "!", "(", "{"};
        for (String one : openers) {
            for (String other : openers) {
                StringBuilder open = new StringBuilder();
                StringBuilder close = new StringBuilder();
                for (int k = 0; k < 40; k++) {
                    String opener = k % 3 == 0 ? one : other;
                    open.append(opener);
                    close.insert(0, opener.equals("(") ? ")" : opener.equals("{") ? "}" : "");
                }
                fine("a=" + open + "'x'" + close + ";", 1);
                for (String last : openers) {
                    malformed("a=" + open + "@" + last, "a=" + open + "@" + last + "'x'", "a=" + open + " \n@" + last);
                    if (!close.isEmpty() && (one.equals("(") || one.equals("{"))) {
                        malformed("a=" + open + ".?/. @" + last);
                    }
                }
            }
        }
    }

    /** "(an & or ! is so for what stands behind it in its PREFIX)": not for the next PREFIX, or behind a ). */
    private static void nestingThatEnds() {
        String looks = "&".repeat(40);
        String parens = "(".repeat(40);
        fine("a=" + looks + ". " + looks + ".;", 1);
        fine("a=" + looks + ".+++ !.;", 1);
        fine("a=" + looks + ". / (" + "!".repeat(39) + ".);", 1);
        fine("a=" + parens + ")".repeat(40) + parens + ")".repeat(40) + ";b=" + parens + ")".repeat(40) + ";", 2);
        fine("a=" + "(".repeat(39) + "&.&.!.!." + ")".repeat(39) + ";", 1);
        fine("a=" + "(".repeat(39) + "().(){}" + ")".repeat(39) + ";", 1);
        malformed("a=" + "(".repeat(39) + "&@(", "a=" + "(".repeat(39) + "(.)(@(", "a=" + "&(".repeat(20) + ".@&", "a=" + "{".repeat(39) + "!@!");
        fine("a=" + "(/".repeat(40) + ")".repeat(40) + ";", 1);
        malformed("a=" + parens + ")".repeat(41).substring(1) + "@);", "a=" + parens + ")".repeat(39) + "@;");
    }

    /** "(the text's length, if more must come)": each beginning of a text that is fine at its end alone. */
    private static void moreMustCome() {
        String text = "ab = &{ 'x\\n\\x4f'i / [^a-c\\]] ? (d ^2 .)+ } !e ; d=; e='';";
        for (int n = 0; n < text.length(); n++) {
            String begun = text.substring(0, n);
            boolean rules = begun.strip().endsWith(";");
            if (rules) {
                fault(begun, 2, begun.contains("d=") ? text.indexOf("e ;") : text.indexOf("d ^"));
            } else {
                fault(begun, 1, n);
            }
        }
        fine(text, 3);
    }
}
