import java.util.ArrayDeque;
import java.util.Deque;

/**
 * A second reading of what texts are well-formed, apart from MatchHouse: byte by byte, with a state and a row of what
 * is open, without knowing what comes.
 */
final class Automaton {
    private enum State {
        /** Between RULES; in a RULE's NAME; behind it. */
        TOP, RULE_NAME, NAMED,
        /** A PREFIX may come; behind a & or !, one must; a PRIMARY is whole; right behind a ^. */
        OPEN, MUST, WHOLE, POWER,
        /** In a NAME of a CHOICE; in a LITERAL; right behind one. */
        USE, LITERAL, QUOTED,
        /** Right behind the [; ahead of an ITEM; behind its first BYTE; behind the - of it. */
        BRACKET, ITEMS, ONE, RANGE,
        /** Within a BYTE: behind its \, its \x, and a digit more. */
        ESCAPE, HEX, HEX_MORE
    }

    private State state = State.TOP;
    /** The state that a BYTE of more than one byte stands in. */
    private State around = State.TOP;
    private boolean comment;
    private int rules;
    private int nameLength;
    private int suffixes;
    private int firstByte;
    private int digits;
    /** Where the BYTE began that is being read. */
    private int byteSpot;
    /** The ( and { that are open, each with how many & and ! stand ahead of it in its PREFIX. */
    private final Deque<Character> open = new ArrayDeque<>();
    private final Deque<Integer> looksAhead = new ArrayDeque<>();
    private int looks;
    private int nested;

    /** Where a text is MALFORMED, -1 if it is not. */
    static int place(String text) {
        Automaton reader = new Automaton();
        for (int i = 0; i < text.length(); i++) {
            int wrong = reader.take(text.charAt(i), i);
            if (wrong >= 0) {
                return wrong;
            }
        }
        return reader.state == State.TOP && reader.rules > 0 ? -1 : text.length();
    }

    private static boolean isLetter(char c) {
        return c >= 'a' && c <= 'z' || c >= 'A' && c <= 'Z' || c == '_';
    }

    private static boolean isDigit(char c) {
        return c >= '0' && c <= '9';
    }

    private static int when(boolean fine, int at) {
        return fine ? -1 : at;
    }

    /** -1 if the byte may come, else the place that is wrong. */
    private int take(char c, int at) {
        switch (state) {
            case LITERAL, BRACKET, ITEMS, ONE, RANGE, ESCAPE, HEX, HEX_MORE:
                return within(c, at);
            case POWER:
                state = State.WHOLE;
                return when(c >= '1' && c <= '9', at);
            case QUOTED:
                state = State.WHOLE;
                if (c == 'i') {
                    return -1;
                }
                break;
            case RULE_NAME, USE:
                if (isLetter(c) || isDigit(c)) {
                    nameLength++;
                    return when(nameLength <= 20, at);
                }
                state = state == State.USE ? State.WHOLE : State.NAMED;
                break;
            default:
                break;
        }
        if (comment || c == '#') {
            comment = c != '\n';
            return -1;
        }
        return c == ' ' || c == '\t' || c == '\r' || c == '\n' ? -1 : token(c, at);
    }

    private int token(char c, int at) {
        if (state == State.TOP) {
            rules++;
            nameLength = 1;
            state = State.RULE_NAME;
            return when(isLetter(c) && rules <= 60, at);
        }
        if (state == State.NAMED) {
            state = State.OPEN;
            return when(c == '=', at);
        }
        if (state == State.WHOLE) {
            if (c == '?' || c == '*' || c == '+' || c == '^') {
                suffixes++;
                state = c == '^' ? State.POWER : State.WHOLE;
                return when(suffixes <= 3, at);
            }
            nested -= looks;
            looks = 0;
            state = State.OPEN;
        }
        if (state == State.OPEN && (c == '/' || c == ';' || c == ')' || c == '}')) {
            return end(c, at);
        }
        return begin(c, at);
    }

    private int end(char c, int at) {
        if (c == '/') {
            return -1;
        }
        if (c == ';') {
            state = State.TOP;
            return when(open.isEmpty(), at);
        }
        if (open.isEmpty() || open.pop() != (c == ')' ? '(' : '{')) {
            return at;
        }
        looks = looksAhead.pop();
        nested--;
        whole();
        return -1;
    }

    private void whole() {
        state = State.WHOLE;
        suffixes = 0;
    }

    private int begin(char c, int at) {
        if (c == '&' || c == '!') {
            looks++;
            nested++;
            state = State.MUST;
            return when(nested <= 40, at);
        }
        if (c == '(' || c == '{') {
            open.push(c);
            looksAhead.push(looks);
            looks = 0;
            nested++;
            state = State.OPEN;
            return when(nested <= 40, at);
        }
        whole();
        if (isLetter(c)) {
            nameLength = 1;
            state = State.USE;
        } else if (c == '\'') {
            state = State.LITERAL;
        } else if (c == '[') {
            state = State.BRACKET;
        } else {
            return when(c == '.', at);
        }
        return -1;
    }

    /** Within a LITERAL or a CLASS. */
    private int within(char c, int at) {
        switch (state) {
            case ESCAPE:
                if (c == 'x') {
                    state = State.HEX;
                    return -1;
                }
                int k = "ntr']-\\^".indexOf(c);
                return k < 0 ? at : take(new int[] {10, 9, 13, '\'', ']', '-', '\\', '^'}[k]);
            case HEX, HEX_MORE:
                int digit = "0123456789abcdef".indexOf(c);
                if (digit < 0) {
                    return at;
                }
                digits = state == State.HEX ? digit : 16 * digits + digit;
                if (state == State.HEX_MORE) {
                    return take(digits);
                }
                state = State.HEX_MORE;
                return -1;
            case ONE:
                state = c == '-' ? State.RANGE : State.ITEMS;
                return c == '-' ? -1 : item(c, at);
            case BRACKET:
                state = State.ITEMS;
                return c == '^' ? -1 : item(c, at);
            default:
                return item(c, at);
        }
    }

    private int item(char c, int at) {
        if (state == State.LITERAL && c == '\'') {
            state = State.QUOTED;
            return -1;
        }
        if (state == State.ITEMS && c == ']') {
            whole();
            return -1;
        }
        around = state;
        byteSpot = at;
        if (c == '\\') {
            state = State.ESCAPE;
            return -1;
        }
        boolean closing = state != State.LITERAL && (c == ']' || c == '-');
        return c < 32 || c > 126 || closing ? at : take(c);
    }

    /** A BYTE is whole. */
    private int take(int value) {
        if (around == State.RANGE) {
            state = State.ITEMS;
            return when(value >= firstByte, byteSpot);
        }
        state = around == State.ITEMS ? State.ONE : State.LITERAL;
        firstByte = value;
        return -1;
    }
}
