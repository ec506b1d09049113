import java.nio.charset.StandardCharsets;

/** What the tests share: a house at hand, answers compared with those that are due, and a count. */
final class Probe {
    MatchHouse house = new MatchHouse();
    private int asked;
    private int wrong;

    void fresh() {
        house = new MatchHouse();
    }

    void due(String what, long got, long want) {
        asked++;
        if (got != want) {
            wrong++;
            System.out.println(what + " answered " + got + ", due is " + want);
        }
    }

    void due(String what, boolean got, boolean want) {
        due(what, got ? 1 : 0, want ? 1 : 0);
    }

    void due(String what, String got, String want) {
        asked++;
        if (!got.equals(want)) {
            wrong++;
            System.out.println(what + " answered\n  " + got + "\ndue is\n  " + want);
        }
    }

    /** The tape has just these bytes. */
    void tape(byte[] bytes) {
        house.end(0);
        for (int at = 0; at < bytes.length; at += 20) {
            int[] numbers = new int[5];
            for (int i = 0; i < 20; i++) {
                int b = at + i < bytes.length ? bytes[at + i] & 255 : 0;
                numbers[i / 4] = numbers[i / 4] << 8 | b;
            }
            due("feed at " + at, house.feed(numbers[0], numbers[1], numbers[2], numbers[3], numbers[4]),
                at + 20);
        }
        due("end", house.end(bytes.length), bytes.length);
    }

    void tape(String text) {
        tape(text.getBytes(StandardCharsets.ISO_8859_1));
    }

    int grammar(String text) {
        tape(text);
        return house.grammar();
    }

    void subject(String text) {
        tape(text);
        due("subject " + text, house.subject(), text.length());
    }

    /** The PROCESSOR's IMAGE is what the text tells in base 16, blanks left out. */
    void code(String hex) {
        byte[] bytes = bytes(hex);
        tape(bytes);
        due("place " + hex, house.place(), bytes.length);
    }

    static byte[] bytes(String hex) {
        String digits = hex.replace(" ", "");
        byte[] bytes = new byte[digits.length() / 2];
        for (int i = 0; i < bytes.length; i++) {
            bytes[i] = (byte) Integer.parseInt(digits.substring(2 * i, 2 * i + 2), 16);
        }
        return bytes;
    }

    /** The IMAGE of a text's PROGRAM in base 16; an object is good for 512 calls, so it takes some. */
    static String imageOf(String text) {
        StringBuilder bytes = new StringBuilder();
        int from = 0;
        int size = 1;
        while (from < size) {
            Probe other = new Probe();
            other.grammar(text);
            size = other.house.count(3);
            for (int i = from; i < from + 250 && i < size; i++) {
                bytes.append(String.format("%02x", other.house.image(i)));
            }
            from += 250;
        }
        return bytes.toString();
    }

    void finish() {
        System.out.println(wrong == 0 ? asked + " answers are as due"
            : wrong + " of " + asked + " answers are not as due");
        if (wrong != 0 || asked == 0) {
            System.exit(1);
        }
    }
}
