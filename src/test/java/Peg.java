import java.util.ArrayList;
import java.util.List;

/** A meaning of grammars told apart from MatchHouse: nodes that are matched as Part III says. */
final class Peg {
    /** Numbers that look random and are the same each time. */
    static final class Dice {
        private long state;

        Dice(long seed) {
            state = seed * 0x9E3779B97F4A7C15L + 1;
        }

        int below(int n) {
            state = state * 6364136223846793005L + 1442695040888963407L;
            return (int) ((state >>> 33) % n);
        }
    }

    enum Kind { BYTES, SEQUENCE, CHOICE, OPTION, STAR, PLUS, LOOK, REFUSE, CAPTURE, NAME }

    final Kind kind;
    final List<Peg> parts = new ArrayList<>();
    /** How BYTES are written. */
    String written = "";
    final boolean[] bytes = new boolean[256];
    /** The RULE of a NAME, the number of a CAPTURE, how many times a SEQUENCE of one has it. */
    int number;

    Peg(Kind kind) {
        this.kind = kind;
    }

    static final class Rules {
        final List<Peg> bodies = new ArrayList<>();
        int captures;
        private long steps;

        /** RULES that are not LEFT and have no loop that takes nothing, in most cases. */
        static Rules random(Dice dice) {
            Rules rules = new Rules();
            int count = 1 + dice.below(4);
            for (int k = 0; k < count; k++) {
                rules.bodies.add(rules.choice(dice, 3, k, count));
            }
            rules.number();
            return rules;
        }

        private Peg choice(Dice dice, int depth, int rule, int count) {
            Peg peg = new Peg(Kind.CHOICE);
            int parts = dice.below(3) == 0 ? 2 + dice.below(2) : 1;
            for (int i = 0; i < parts; i++) {
                peg.parts.add(sequence(dice, depth, rule, count));
            }
            return peg;
        }

        private Peg sequence(Dice dice, int depth, int rule, int count) {
            Peg peg = new Peg(Kind.SEQUENCE);
            peg.number = 1;
            int parts = dice.below(8) == 0 ? 0 : 1 + dice.below(3);
            for (int i = 0; i < parts; i++) {
                peg.parts.add(part(dice, depth, rule, count, i > 0));
            }
            return peg;
        }

        private Peg part(Dice dice, int depth, int rule, int count, boolean behind) {
            int what = dice.below(depth > 0 ? 20 : 9);
            if (what < 7) {
                return leaf(dice);
            }
            if (what < 9) {
                Peg name = new Peg(Kind.NAME);
                boolean any = behind && dice.below(2) == 0;
                name.number = any ? dice.below(count) : Math.min(count - 1, rule + 1 + dice.below(2));
                return name.number == rule && !any ? leaf(dice) : name;
            }
            Kind[] kinds = {Kind.OPTION, Kind.STAR, Kind.PLUS, Kind.LOOK, Kind.REFUSE, Kind.CAPTURE, Kind.CAPTURE,
                Kind.CHOICE, Kind.SEQUENCE, Kind.OPTION, Kind.STAR};
            Kind kind = kinds[what - 9];
            if (kind == Kind.CHOICE) {
                return choice(dice, depth - 1, rule, count);
            }
            Peg peg = new Peg(kind);
            peg.number = 1 + dice.below(3);
            Peg inner = choice(dice, depth - 1, rule, count);
            if (kind == Kind.STAR || kind == Kind.PLUS) {
                Peg solid = new Peg(Kind.SEQUENCE);
                solid.number = 1;
                solid.parts.add(leaf(dice));
                solid.parts.add(inner);
                inner = dice.below(3) == 0 ? leaf(dice) : solid;
            }
            peg.parts.add(inner);
            return peg;
        }

        private static Peg leaf(Dice dice) {
            Peg peg = new Peg(Kind.BYTES);
            int what = dice.below(10);
            char c = (char) ('a' + dice.below(3));
            if (what < 6) {
                peg.written = "'" + c + "'";
                peg.bytes[c] = true;
            } else if (what < 7) {
                peg.written = "'" + c + "'i";
                peg.bytes[c] = true;
                peg.bytes[c - 32] = true;
            } else if (what < 8) {
                peg.written = "[a-" + c + "]";
                for (int b = 'a'; b <= c; b++) {
                    peg.bytes[b] = true;
                }
            } else {
                peg.written = what < 9 ? "[^" + c + "]" : ".";
                for (int b = 0; b < 256; b++) {
                    peg.bytes[b] = what == 9 || b != c;
                }
            }
            return peg;
        }

        /** { are numbered as they stand in the text. */
        private void number() {
            for (Peg body : bodies) {
                number(body);
            }
        }

        private void number(Peg peg) {
            if (peg.kind == Kind.CAPTURE) {
                peg.number = captures++;
            }
            for (Peg part : peg.parts) {
                number(part);
            }
        }

        String text() {
            StringBuilder text = new StringBuilder();
            for (int k = 0; k < bodies.size(); k++) {
                text.append("r" + k + " = ");
                write(bodies.get(k), text);
                text.append(";\n");
            }
            return text.toString();
        }

        private void write(Peg peg, StringBuilder text) {
            switch (peg.kind) {
                case BYTES -> text.append(peg.written);
                case NAME -> text.append("r" + peg.number);
                case CHOICE -> {
                    text.append('(');
                    for (int i = 0; i < peg.parts.size(); i++) {
                        text.append(i == 0 ? "" : " / ");
                        write(peg.parts.get(i), text);
                    }
                    text.append(')');
                }
                case SEQUENCE -> {
                    boolean single = peg.number == 1;
                    text.append(single ? "" : "(");
                    for (int i = 0; i < peg.parts.size(); i++) {
                        text.append(i == 0 ? "" : " ");
                        write(peg.parts.get(i), text);
                    }
                    text.append(single ? "" : ")^" + peg.number);
                }
                default -> writeUnary(peg, text);
            }
        }

        private void writeUnary(Peg peg, StringBuilder text) {
            boolean brackets = peg.kind != Kind.CAPTURE && peg.parts.get(0).kind == Kind.SEQUENCE;
            text.append(peg.kind == Kind.LOOK ? "&" : peg.kind == Kind.REFUSE ? "!" : "");
            text.append(peg.kind == Kind.CAPTURE ? "{" : brackets ? "(" : "");
            write(peg.parts.get(0), text);
            text.append(peg.kind == Kind.CAPTURE ? "}" : brackets ? ")" : "");
            text.append(peg.kind == Kind.OPTION ? "?" : peg.kind == Kind.STAR ? "*" : peg.kind == Kind.PLUS ? "+" : "");
        }

        /** Where the match ends, -1 if it fails, -2 if it takes too long; EVENTS are {, closed, place. */
        int match(byte[] subject, int place, List<int[]> events) {
            steps = 0;
            int end = take(bodies.get(0), subject, place, events);
            return steps > 20000 ? -2 : end;
        }

        private int take(Peg peg, byte[] subject, int place, List<int[]> events) {
            steps++;
            if (steps > 20000) {
                return -1;
            }
            int kept = events.size();
            int end = takeKind(peg, subject, place, events);
            while (end < 0 && events.size() > kept) {
                events.remove(events.size() - 1);
            }
            return end;
        }

        private int takeKind(Peg peg, byte[] subject, int place, List<int[]> events) {
            switch (peg.kind) {
                case BYTES:
                    return place < subject.length && peg.bytes[subject[place] & 255] ? place + 1 : -1;
                case NAME:
                    return take(bodies.get(peg.number), subject, place, events);
                case SEQUENCE:
                    int at = place;
                    for (int time = 0; time < peg.number; time++) {
                        for (Peg part : peg.parts) {
                            at = at < 0 ? at : take(part, subject, at, events);
                        }
                    }
                    return at;
                case CHOICE:
                    for (Peg part : peg.parts) {
                        int end = take(part, subject, place, events);
                        if (end >= 0) {
                            return end;
                        }
                    }
                    return -1;
                case CAPTURE:
                    events.add(new int[] {peg.number, 0, place});
                    int closed = take(peg.parts.get(0), subject, place, events);
                    events.add(new int[] {peg.number, 1, closed});
                    return closed;
                case LOOK:
                    return take(peg.parts.get(0), subject, place, new ArrayList<>()) >= 0 ? place : -1;
                case REFUSE:
                    return take(peg.parts.get(0), subject, place, new ArrayList<>()) >= 0 ? -1 : place;
                default:
                    return repeat(peg, subject, place, events);
            }
        }

        private int repeat(Peg peg, byte[] subject, int place, List<int[]> events) {
            int most = peg.kind == Kind.OPTION ? 1 : Integer.MAX_VALUE;
            int at = place;
            int times = 0;
            while (times < most && steps < 20000) {
                int end = take(peg.parts.get(0), subject, at, events);
                if (end < 0) {
                    break;
                }
                at = end;
                times++;
            }
            return peg.kind == Kind.PLUS && times == 0 ? -1 : at;
        }
    }
}
