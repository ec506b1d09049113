import java.util.ArrayList;
import java.util.List;
import java.util.regex.Matcher;
import java.util.regex.Pattern;

/**
 * The IMAGE of a PROGRAM, laid from the document's own words of Part VII, apart from MatchHouse: each instruction is
 * a text, the texts are assembled and laid until all jumps reach.
 */
final class Layout {
    private static final String NEXT = "cmp ebx, [139264]; jae F; mov eax, ebx; ( and eax, 65535; movzx eax, [eax+131072] )";
    private static final String IN = "mov ecx, eax; shr eax, 5; lea eax, [eax*4+v]; ( and eax, 65532; mov eax, [eax+131072] ); bt eax, ecx; jae F";
    private static final String GO = "( and ecx, 65504; add ecx, 65536; jmp ecx )";
    private static final String EVENT = "mov eax, edi; mov ecx, k; ( and eax, 65528; mov [eax+131072], ecx; mov [eax+131076], ebx ); add edi, 8; dec ebp; js OVER";
    private static final String[] TEXTS = {
        "NEXT FAIL; cmp eax, b; jne FAIL; inc ebx",
        "NEXT FAIL; IN FAIL; inc ebx",
        "cmp ebx, [139264]; jae FAIL; inc ebx",
        "NEXT 2; IN 2; inc ebx; jmp 1",
        "NEXT L; cmp eax, b; jne L",
        "NEXT L; IN L",
        "cmp ebx, [139264]; jae L",
        "jmp L",
        "mov eax, esi; mov ecx, w; ( and eax, 65520; mov [eax+131072], ecx; mov [eax+131076], ebx; mov [eax+131080], edi;"
            + " mov [eax+131084], ebp ); add esi, 16; dec ebp; js OVER",
        "sub esi, 16; inc ebp; jmp L",
        "mov eax, esi; sub eax, 16; lea ecx, [ebp+1]; ( and eax, 65520; mov [eax+131076], ebx; mov [eax+131080], edi;"
            + " mov [eax+131084], ecx ); jmp L",
        "sub esi, 16; mov eax, esi; ( and eax, 65520; mov ebx, [eax+131076]; mov edi, [eax+131080]; mov ebp, [eax+131084] ); jmp L",
        "sub esi, 16; jmp FAIL",
        "jmp FAIL",
        "mov eax, esi; mov ecx, w; ( and eax, 65520; mov [eax+131072], ecx; mov [eax+131076], -1; mov [eax+131084], ebp );"
            + " add esi, 16; dec ebp; js OVER; jmp L",
        "sub esi, 16; inc ebp; mov eax, esi; ( and eax, 65520; mov ecx, [eax+131072] ); GO",
        EVENT,
        EVENT,
        "mov eax, ebx; HLT"};
    private static final String[] LAST = {
        "cmp esi, 12288; je NO; sub esi, 16; mov eax, esi; ( and eax, 65520; mov ecx, [eax+131072]; mov ebx, [eax+131076];"
            + " mov edx, [eax+131080]; mov ebp, [eax+131084] ); cmp ebx, -1; je FAIL; mov edi, edx; GO",
        "mov eax, -1; HLT",
        "mov eax, -2; HLT"};

    private static final List<String> REGISTERS = List.of("eax", "ecx", "edx", "ebx", "esp", "ebp", "esi", "edi");
    private static final List<String> SUMS = List.of("add", "or", "adc", "sbb", "and", "sub", "xor", "cmp");
    private static final List<String> JUMPS = List.of("jmp", "jae", "je", "jne", "js");
    private static final int[] CONDITIONS = {-1, 3, 4, 5, 8};
    private static final Pattern FIELD = Pattern.compile("\\[(e..)\\+(\\d+)\\]");
    private static final Pattern TIMES = Pattern.compile("\\[(e..)\\*4\\+(\\d+)\\]");

    /** A processor's instruction: its text, whose it is, and the number of its GROUP (-1 without one). */
    private static final class Line {
        final String text;
        final int owner;
        final int group;
        boolean near;
        int at;
        int size;

        Line(String text, int owner, int group) {
            this.text = text;
            this.owner = owner;
            this.group = group;
        }

        boolean isJump() {
            String[] words = text.split(" ");
            return JUMPS.contains(words[0]) && !REGISTERS.contains(words[1]);
        }

        int target() {
            return Integer.parseInt(text.split(" ")[1]);
        }

        int condition() {
            return CONDITIONS[JUMPS.indexOf(text.split(" ")[0])];
        }
    }

    private final List<Line> lines = new ArrayList<>();
    private final boolean[] begins;
    final int[] places;
    private int groups;
    int size;
    /** How many SHORT jumps go as far as they can, and how many NEAR ones were SHORT and missed by a byte. */
    int farthestAhead;
    int farthestBack;
    int missedAhead;
    int missedBack;

    /** Rows of op, number and target. */
    Layout(int[][] program) {
        int n = program.length;
        begins = new boolean[n + 3];
        places = new int[n + 3];
        for (int i = 0; i < n; i++) {
            if (program[i][0] == 8) {
                begins[program[i][2]] = true;
            }
            if (program[i][0] == 14) {
                begins[i + 1] = true;
            }
        }
        for (int i = 0; i < n; i++) {
            add(i, words(program[i], i, n));
        }
        for (int k = 0; k < LAST.length; k++) {
            add(n + k, LAST[k].replace("GO", GO).replace("FAIL", "" + n).replace("NO", "" + (n + 1)));
        }
        lay();
    }

    private static String words(int[] now, int i, int n) {
        int op = now[0];
        String told = op == 14 ? "w" + (i + 1) : "w" + now[2];
        String text = TEXTS[op];
        if (op == 3) {
            text = text.replace("NEXT 2", NEXT.replace("F", "" + (i + 1))).replace("IN 2", IN.replace("F", "" + (i + 1))).replace("jmp 1", "jmp " + i);
        }
        text = text.replace("NEXT FAIL", NEXT.replace("F", "" + n)).replace("NEXT L", NEXT.replace("F", "" + now[2]));
        text = text.replace("IN FAIL", IN.replace("F", "" + n)).replace("IN L", IN.replace("F", "" + now[2]));
        text = text.replace("GO", GO).replace("FAIL", "" + n).replace("OVER", "" + (n + 2)).replace(" L", " " + now[2]);
        text = text.replace(", b;", ", " + now[1] + ";").replace(", w;", ", " + told + ";");
        text = text.replace(", k;", ", " + (2 * now[1] + op - 16) + ";").replace("+v]", "+" + (4096 + 32 * now[1]) + "]");
        return text;
    }

    private void add(int owner, String text) {
        int group = -1;
        for (String part : text.replace("(", "; (;").replace(")", ";);").split(";")) {
            String word = part.strip();
            if (word.equals("(")) {
                group = groups++;
            } else if (word.equals(")")) {
                group = -1;
            } else if (!word.isEmpty()) {
                lines.add(new Line(word, owner, group));
            }
        }
    }

    private void lay() {
        boolean again = true;
        while (again) {
            place();
            again = false;
            for (Line line : lines) {
                if (line.isJump() && !line.near) {
                    int way = places[line.target()] - line.at - line.size;
                    line.near = way < -128 || way > 127;
                    again |= line.near;
                    missedAhead += way == 128 ? 1 : 0;
                    missedBack += way == -129 ? 1 : 0;
                }
            }
        }
        for (Line line : lines) {
            if (line.isJump() && !line.near) {
                int way = places[line.target()] - line.at - line.size;
                farthestAhead += way == 127 ? 1 : 0;
                farthestBack += way == -128 ? 1 : 0;
            }
        }
    }

    private void place() {
        int at = 0;
        int owner = -1;
        int group = -1;
        for (int i = 0; i < lines.size(); i++) {
            Line line = lines.get(i);
            line.size = bytes(line).length;
            boolean first = line.owner != owner;
            if (first && begins[line.owner]) {
                at = (at + 31) / 32 * 32;
            }
            int together = line.size;
            for (int k = i + 1; line.group >= 0 && k < lines.size() && lines.get(k).group == line.group; k++) {
                together += bytes(lines.get(k)).length;
            }
            boolean inside = line.group >= 0 && line.group == group;
            if (!inside && at % 32 + together > 32) {
                at = (at + 31) / 32 * 32;
            }
            line.at = at;
            if (first) {
                places[line.owner] = at;
            }
            at += line.size;
            owner = line.owner;
            group = line.group;
        }
        size = at;
    }

    String hex() {
        byte[] image = new byte[size];
        java.util.Arrays.fill(image, (byte) 0x90);
        for (Line line : lines) {
            byte[] bytes = bytes(line);
            System.arraycopy(bytes, 0, image, line.at, bytes.length);
        }
        StringBuilder text = new StringBuilder();
        for (byte b : image) {
            text.append(String.format("%02x", b));
        }
        return text.toString();
    }

    private byte[] bytes(Line line) {
        String text = line.text;
        String name = text.split(" ")[0];
        String[] sides = text.substring(name.length()).strip().split(", ");
        if (line.isJump()) {
            int way = places[line.target()] - line.at - line.size;
            int c = line.condition();
            if (!line.near) {
                return numbers(c < 0 ? 0xEB : 0x70 + c, way);
            }
            return with(c < 0 ? numbers(0xE9) : numbers(0x0F, 0x80 + c), way);
        }
        int left = REGISTERS.indexOf(sides[0]);
        int right = sides.length > 1 ? REGISTERS.indexOf(sides[1]) : -1;
        Matcher to = FIELD.matcher(sides[0]);
        Matcher from = FIELD.matcher(sides.length > 1 ? sides[1] : "");
        switch (name) {
            case "HLT":
                return numbers(0xF4);
            case "inc":
                return numbers(0x40 + left);
            case "dec":
                return numbers(0x48 + left);
            case "jmp":
                return numbers(0xFF, 0xE0 + left);
            case "shr":
                return numbers(0xC1, 0xE8 + left, Integer.parseInt(sides[1]));
            case "bt":
                return numbers(0x0F, 0xA3, 0xC0 + 8 * right + left);
            case "movzx":
                from.matches();
                return with(numbers(0x0F, 0xB6, 0x80 + 8 * left + REGISTERS.indexOf(from.group(1))), Integer.parseInt(from.group(2)));
            case "lea":
                Matcher times = TIMES.matcher(sides[1]);
                if (times.matches()) {
                    return with(numbers(0x8D, 8 * left + 4, 0x80 + 8 * REGISTERS.indexOf(times.group(1)) + 5), Integer.parseInt(times.group(2)));
                }
                from.matches();
                return with(numbers(0x8D, 0x80 + 8 * left + REGISTERS.indexOf(from.group(1))), Integer.parseInt(from.group(2)));
            case "mov":
                return move(sides, left, right, to, from);
            default:
                int n = SUMS.indexOf(name);
                if (sides[1].startsWith("[")) {
                    return with(numbers(8 * n + 3, 8 * left + 5), Integer.parseInt(sides[1].substring(1, sides[1].length() - 1)));
                }
                return with(numbers(0x81, 0xC0 + 8 * n + left), Integer.parseInt(sides[1]));
        }
    }

    private byte[] move(String[] sides, int left, int right, Matcher to, Matcher from) {
        if (to.matches()) {
            int base = REGISTERS.indexOf(to.group(1));
            int offset = Integer.parseInt(to.group(2));
            if (right >= 0) {
                return with(numbers(0x89, 0x80 + 8 * right + base), offset);
            }
            byte[] head = with(numbers(0xC7, 0x80 + base), offset);
            return with(head, Integer.parseInt(sides[1]));
        }
        if (from.matches()) {
            return with(numbers(0x8B, 0x80 + 8 * left + REGISTERS.indexOf(from.group(1))), Integer.parseInt(from.group(2)));
        }
        if (right >= 0) {
            return numbers(0x89, 0xC0 + 8 * right + left);
        }
        boolean place = sides[1].startsWith("w");
        return with(numbers(0xB8 + left), place ? places[Integer.parseInt(sides[1].substring(1))] : Integer.parseInt(sides[1]));
    }

    private static byte[] numbers(int... values) {
        byte[] bytes = new byte[values.length];
        for (int i = 0; i < values.length; i++) {
            bytes[i] = (byte) values[i];
        }
        return bytes;
    }

    private static byte[] with(byte[] head, int number) {
        byte[] all = java.util.Arrays.copyOf(head, head.length + 4);
        for (int k = 0; k < 4; k++) {
            all[head.length + k] = (byte) (number >> 8 * k);
        }
        return all;
    }
}
