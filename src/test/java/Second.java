import java.util.ArrayList;
import java.util.Arrays;
import java.util.List;

/**
 * A second reading of Parts II and IV, apart from MatchHouse and plainer: texts that are well-formed to trees, their
 * traits by trying again and again, FAULTS 2 to 4, and the PROGRAM, with lists and labels.
 */
final class Second {
    enum Kind { PLAIN, SEQUENCE, CHOICE, OPTION, STAR, PLUS, LOOK, REFUSE, CAPTURE, NAME }

    static final class Node {
        final Kind kind;
        final List<Node> parts = new ArrayList<>();
        boolean[] bytes = new boolean[256];
        String name = "";
        /** The number of a {; the place of a NAME, a * or a +. */
        int number;
        int rule = -1;

        Node(Kind kind, Node... parts) {
            this.kind = kind;
            this.parts.addAll(Arrays.asList(parts));
        }
    }

    /** An instruction's op, number and target; a label is what a target is before its place is known. */
    static final class Label {
        int place;
    }

    static final class Line {
        int op;
        int number;
        boolean[] bytes;
        Label target;

        Line(int op, int number, Label target) {
            this.op = op;
            this.number = number;
            this.target = target;
        }
    }

    private final String text;
    private int at;
    final List<String> names = new ArrayList<>();
    final List<Integer> spots = new ArrayList<>();
    final List<Node> roots = new ArrayList<>();
    private final List<Node> uses = new ArrayList<>();
    private final List<Node> loops = new ArrayList<>();
    int captures;
    int faultKind;
    int faultPlace = -1;

    boolean[] nullable;
    boolean[] nofail;
    boolean[] sure;
    boolean[][] first;

    final List<Line> lines = new ArrayList<>();
    final List<boolean[]> sets = new ArrayList<>();
    int[] entries;

    Second(String text) {
        this.text = text;
        skip();
        while (at < text.length()) {
            spots.add(at);
            names.add(word());
            take('=');
            roots.add(choice());
            take(';');
            skip();
        }
        judge();
        if (faultKind == 0) {
            write();
        }
    }

    private void skip() {
        while (at < text.length() && " \t\r\n#".indexOf(text.charAt(at)) >= 0) {
            if (text.charAt(at) == '#') {
                int end = text.indexOf('\n', at);
                at = end < 0 ? text.length() : end;
            } else {
                at++;
            }
        }
    }

    private char next() {
        skip();
        return text.charAt(at);
    }

    private void take(char c) {
        if (next() != c) {
            throw new IllegalStateException(text + " at " + at);
        }
        at++;
    }

    private String word() {
        int from = at;
        while (Character.isLetterOrDigit(text.charAt(at)) || text.charAt(at) == '_') {
            at++;
        }
        return text.substring(from, at);
    }

    private Node choice() {
        List<Node> parts = new ArrayList<>();
        parts.add(sequence());
        while (next() == '/') {
            at++;
            parts.add(sequence());
        }
        List<Node> merged = new ArrayList<>();
        for (Node part : parts) {
            Node last = merged.isEmpty() ? null : merged.get(merged.size() - 1);
            if (last != null && last.kind == Kind.PLAIN && part.kind == Kind.PLAIN) {
                Node both = new Node(Kind.PLAIN);
                for (int b = 0; b < 256; b++) {
                    both.bytes[b] = last.bytes[b] || part.bytes[b];
                }
                merged.set(merged.size() - 1, both);
            } else {
                merged.add(part);
            }
        }
        return merged.size() == 1 ? merged.get(0) : new Node(Kind.CHOICE, merged.toArray(new Node[0]));
    }

    private Node sequence() {
        List<Node> parts = new ArrayList<>();
        while ("/;)}".indexOf(next()) < 0) {
            parts.add(prefix());
        }
        return parts.size() == 1 ? parts.get(0) : new Node(Kind.SEQUENCE, parts.toArray(new Node[0]));
    }

    private Node prefix() {
        char c = next();
        if (c == '&' || c == '!') {
            at++;
            return new Node(c == '&' ? Kind.LOOK : Kind.REFUSE, prefix());
        }
        Node node = primary();
        while ("?*+^".indexOf(next()) >= 0) {
            char suffix = text.charAt(at++);
            if (suffix == '^') {
                int times = text.charAt(at++) - '0';
                Node[] parts = new Node[times];
                Arrays.fill(parts, node);
                node = times == 1 ? node : new Node(Kind.SEQUENCE, parts);
            } else {
                node = new Node(suffix == '?' ? Kind.OPTION : suffix == '*' ? Kind.STAR : Kind.PLUS, node);
                node.number = at - 1;
                if (suffix != '?') {
                    loops.add(node);
                }
            }
        }
        return node;
    }

    private Node primary() {
        char c = next();
        if (c == '(' || c == '{') {
            at++;
            int number = captures;
            captures += c == '{' ? 1 : 0;
            Node node = choice();
            take(c == '(' ? ')' : '}');
            if (c == '(') {
                return node;
            }
            Node capture = new Node(Kind.CAPTURE, node);
            capture.number = number;
            return capture;
        }
        if (c == '.') {
            at++;
            Node node = new Node(Kind.PLAIN);
            Arrays.fill(node.bytes, true);
            return node;
        }
        if (c == '\'') {
            return literal();
        }
        if (c == '[') {
            return set();
        }
        Node node = new Node(Kind.NAME);
        node.number = at;
        node.name = word();
        uses.add(node);
        return node;
    }

    private int oneByte() {
        char c = text.charAt(at++);
        if (c != '\\') {
            return c;
        }
        char e = text.charAt(at++);
        if (e == 'x') {
            at += 2;
            return Integer.parseInt(text.substring(at - 2, at), 16);
        }
        return e == 'n' ? 10 : e == 't' ? 9 : e == 'r' ? 13 : e;
    }

    private Node literal() {
        at++;
        List<Integer> bytes = new ArrayList<>();
        while (text.charAt(at) != '\'') {
            bytes.add(oneByte());
        }
        at++;
        boolean both = text.charAt(at) == 'i';
        at += both ? 1 : 0;
        List<Node> parts = new ArrayList<>();
        for (int b : bytes) {
            Node node = new Node(Kind.PLAIN);
            node.bytes[b] = true;
            if (both && b < 128 && Character.isLetter(b)) {
                node.bytes[Character.toUpperCase(b)] = true;
                node.bytes[Character.toLowerCase(b)] = true;
            }
            parts.add(node);
        }
        return parts.size() == 1 ? parts.get(0) : new Node(Kind.SEQUENCE, parts.toArray(new Node[0]));
    }

    private Node set() {
        at++;
        boolean others = text.charAt(at) == '^';
        at += others ? 1 : 0;
        Node node = new Node(Kind.PLAIN);
        while (text.charAt(at) != ']') {
            int low = oneByte();
            int high = low;
            if (text.charAt(at) == '-') {
                at++;
                high = oneByte();
            }
            Arrays.fill(node.bytes, low, high + 1, true);
        }
        at++;
        for (int b = 0; b < 256; b++) {
            node.bytes[b] ^= others;
        }
        return node;
    }

    private void fault(int kind, int place) {
        if (faultKind == 0 || faultKind == kind && place < faultPlace) {
            faultKind = kind;
            faultPlace = place;
        }
    }

    private void judge() {
        for (int k = 0; k < names.size(); k++) {
            if (names.indexOf(names.get(k)) < k) {
                fault(2, spots.get(k));
            }
        }
        for (Node use : uses) {
            use.rule = names.indexOf(use.name);
            if (use.rule < 0) {
                fault(2, use.number);
            }
        }
        if (faultKind == 0) {
            settle();
            findLeft();
        }
        for (Node loop : loops) {
            if (faultKind == 0 || faultKind == 4) {
                if (isNullable(loop.parts.get(0))) {
                    fault(4, loop.number);
                }
            }
        }
    }

    /** The least that are so: none at first, then as often as something comes to be so. */
    private void settle() {
        int n = roots.size();
        nullable = new boolean[n];
        nofail = new boolean[n];
        sure = new boolean[n];
        first = new boolean[n][256];
        boolean more = true;
        while (more) {
            more = false;
            for (int k = 0; k < n; k++) {
                boolean[] was = {nullable[k], nofail[k], sure[k]};
                boolean[] had = first[k];
                nullable[k] = isNullable(roots.get(k));
                nofail[k] = isNofail(roots.get(k));
                sure[k] = isSure(roots.get(k));
                first[k] = firstOf(roots.get(k));
                more |= was[0] != nullable[k] || was[1] != nofail[k] || was[2] != sure[k] || !Arrays.equals(had, first[k]);
            }
        }
    }

    private boolean isNullable(Node e) {
        return switch (e.kind) {
            case PLAIN -> false;
            case SEQUENCE -> e.parts.stream().allMatch(this::isNullable);
            case CHOICE -> e.parts.stream().anyMatch(this::isNullable);
            case OPTION, STAR, LOOK, REFUSE -> true;
            case PLUS, CAPTURE -> isNullable(e.parts.get(0));
            case NAME -> nullable[e.rule];
        };
    }

    private boolean isNofail(Node e) {
        return switch (e.kind) {
            case PLAIN, LOOK, REFUSE, PLUS -> false;
            case SEQUENCE -> e.parts.stream().allMatch(this::isNofail);
            case CHOICE -> e.parts.stream().anyMatch(this::isNofail);
            case OPTION, STAR -> true;
            case CAPTURE -> isNofail(e.parts.get(0));
            case NAME -> nofail[e.rule];
        };
    }

    private boolean isSure(Node e) {
        return switch (e.kind) {
            case PLAIN -> true;
            case SEQUENCE -> !e.parts.isEmpty() && isSure(e.parts.get(0))
                && e.parts.subList(1, e.parts.size()).stream().allMatch(this::isNofail);
            case CHOICE -> e.parts.stream().allMatch(this::isSure);
            case PLUS, CAPTURE -> isSure(e.parts.get(0));
            case NAME -> sure[e.rule];
            case OPTION, STAR, LOOK, REFUSE -> false;
        };
    }

    private boolean[] firstOf(Node e) {
        boolean[] all = new boolean[256];
        switch (e.kind) {
            case PLAIN -> add(all, e.bytes);
            case NAME -> add(all, first[e.rule]);
            case LOOK, REFUSE -> { }
            case SEQUENCE -> {
                for (Node part : e.parts) {
                    add(all, firstOf(part));
                    if (!isNullable(part)) {
                        break;
                    }
                }
            }
            default -> {
                for (Node part : e.parts) {
                    add(all, firstOf(part));
                }
            }
        }
        return all;
    }

    private static void add(boolean[] all, boolean[] more) {
        for (int b = 0; b < 256; b++) {
            all[b] |= more[b];
        }
    }

    private void findLeft() {
        int n = roots.size();
        boolean[][] begins = new boolean[n][n];
        for (int k = 0; k < n; k++) {
            noteBegins(roots.get(k), begins[k]);
        }
        for (int round = 0; round < n; round++) {
            for (int k = 0; k < n; k++) {
                for (int m = 0; m < n; m++) {
                    for (int j = 0; begins[k][m] && j < n; j++) {
                        begins[k][j] |= begins[m][j];
                    }
                }
            }
        }
        for (int k = 0; k < n; k++) {
            if (begins[k][k]) {
                fault(3, spots.get(k));
            }
        }
    }

    private void noteBegins(Node e, boolean[] row) {
        if (e.kind == Kind.NAME) {
            row[e.rule] = true;
        }
        for (Node part : e.parts) {
            noteBegins(part, row);
            if (e.kind == Kind.SEQUENCE && !isNullable(part)) {
                break;
            }
        }
    }

    private void write() {
        Label[] labels = new Label[roots.size()];
        entries = new int[roots.size()];
        for (int k = 0; k < labels.length; k++) {
            labels[k] = new Label();
        }
        put(14, 0, labels[0]);
        put(18, 0, null);
        for (int k = 0; k < labels.length && lines.size() <= 2000; k++) {
            bind(labels[k]);
            entries[k] = lines.size();
            write(roots.get(k), labels);
            put(15, 0, null);
        }
        if (lines.size() > 2000) {
            fault(5, text.length());
            return;
        }
        thread();
        shorten();
        for (int i = 0; i + 1 < lines.size(); i++) {
            if (lines.get(i).op == 14 && lines.get(i + 1).op == 15) {
                lines.get(i).op = 7;
            }
        }
        thread();
        shorten();
        numberSets();
    }

    private Line put(int op, int number, Label target) {
        Line line = new Line(op, number, target);
        lines.add(line);
        return line;
    }

    private void bind(Label label) {
        label.place = lines.size();
    }

    private void ofBytes(boolean[] bytes, int one, int some, int all, Label target) {
        int count = 0;
        int last = 0;
        for (int b = 0; b < 256; b++) {
            count += bytes[b] ? 1 : 0;
            last = bytes[b] ? b : last;
        }
        if (count == 1) {
            put(one, last, target);
        } else if (count == 256) {
            put(all, 0, target);
        } else {
            put(some, 0, target).bytes = bytes;
        }
    }

    private void test(Node e, Label label) {
        ofBytes(firstOf(e), 4, 5, 6, label);
    }

    private void write(Node e, Label[] rules) {
        if (lines.size() > 2000) {
            return;
        }
        Node part = e.parts.isEmpty() ? null : e.parts.get(0);
        Label one = new Label();
        switch (e.kind) {
            case PLAIN -> ofBytes(e.bytes, 0, 1, 2, null);
            case NAME -> put(14, 0, rules[e.rule]);
            case SEQUENCE -> e.parts.forEach(p -> write(p, rules));
            case CAPTURE -> {
                put(16, e.number, null);
                write(part, rules);
                put(17, e.number, null);
            }
            case CHOICE -> writeChoice(e.parts, rules);
            case OPTION -> {
                boolean choice = begin(part, one, rules, false);
                if (choice) {
                    put(9, 0, one);
                }
                bind(one);
            }
            case STAR -> star(part, rules);
            case PLUS -> {
                write(part, rules);
                star(part, rules);
            }
            case REFUSE -> {
                boolean choice = begin(part, one, rules, true);
                put(choice ? 12 : 13, 0, null);
                bind(one);
            }
            case LOOK -> {
                Label two = new Label();
                boolean choice = begin(part, one, rules, true);
                put(choice ? 11 : 7, 0, two);
                bind(one);
                put(13, 0, null);
                bind(two);
            }
        }
    }

    /** TEST, and CHOICE if e is not SURE (then true), and e (but not of a SURE one that is only looked at). */
    private boolean begin(Node e, Label label, Label[] rules, boolean look) {
        boolean choice = !isSure(e);
        if (!choice || !isNullable(e)) {
            test(e, label);
        }
        if (choice) {
            put(8, 0, label);
        }
        if (choice || !look) {
            write(e, rules);
        }
        return choice;
    }

    private void writeChoice(List<Node> parts, Label[] rules) {
        Node e = parts.get(0);
        if (parts.size() == 1) {
            write(e, rules);
            return;
        }
        Node others = parts.size() == 2 ? parts.get(1) : new Node(Kind.CHOICE, parts.subList(1, parts.size()).toArray(new Node[0]));
        boolean[] mine = firstOf(e);
        boolean[] theirs = firstOf(others);
        boolean common = isNullable(e) || isNullable(others);
        for (int b = 0; b < 256; b++) {
            common |= mine[b] && theirs[b];
        }
        Label one = new Label();
        Label two = new Label();
        boolean plain = isSure(e) || !common;
        if (plain || !isNullable(e)) {
            test(e, one);
        }
        if (!plain) {
            put(8, 0, one);
        }
        write(e, rules);
        put(plain ? 7 : 9, 0, two);
        bind(one);
        writeChoice(parts.subList(1, parts.size()), rules);
        bind(two);
    }

    private void star(Node e, Label[] rules) {
        Label one = new Label();
        Label two = new Label();
        if (e.kind == Kind.PLAIN) {
            put(3, 0, null).bytes = e.bytes;
            return;
        }
        boolean plain = isSure(e);
        if (plain) {
            bind(one);
            test(e, two);
        } else {
            test(e, two);
            put(8, 0, two);
            bind(one);
        }
        write(e, rules);
        put(plain ? 7 : 10, 0, one);
        bind(two);
    }

    private void thread() {
        boolean more = true;
        while (more) {
            more = false;
            for (Line line : lines) {
                Line there = line.target == null ? null : lines.get(line.target.place);
                if (there != null && there.op == 7 && there.target != line.target) {
                    line.target = there.target;
                    more = true;
                }
            }
        }
    }

    private void shorten() {
        for (Line line : lines) {
            int there = line.op == 7 ? lines.get(line.target.place).op : -1;
            if (there == 15 || there == 13) {
                line.op = there;
                line.target = null;
            }
        }
    }

    private void numberSets() {
        for (Line line : lines) {
            if (line.bytes != null) {
                int number = -1;
                for (int k = 0; k < sets.size(); k++) {
                    number = Arrays.equals(sets.get(k), line.bytes) ? k : number;
                }
                if (number < 0) {
                    number = sets.size();
                    sets.add(line.bytes);
                }
                line.number = number;
            }
        }
        if (sets.size() > 128) {
            fault(5, text.length());
        }
    }

    static int word(boolean[] bytes, int w) {
        int word = 0;
        for (int k = 0; k < 32; k++) {
            word |= bytes[32 * w + k] ? 1 << k : 0;
        }
        return word;
    }

    /** A text that is well-formed, of some RULES, not too deep. */
    static String random(Peg.Dice dice) {
        StringBuilder text = new StringBuilder();
        int count = 1 + dice.below(5);
        for (int k = 0; k < count; k++) {
            text.append(blank(dice)).append('r').append(dice.below(40) == 0 ? 0 : k).append(blank(dice)).append('=');
            randomChoice(dice, text, 3, count);
            text.append(';');
        }
        return text.append(blank(dice)).toString();
    }

    private static String blank(Peg.Dice dice) {
        String[] blanks = {"", "", "", " ", "\n", "\t ", " # c;'(\n", "\r"};
        return blanks[dice.below(blanks.length)];
    }

    private static void randomChoice(Peg.Dice dice, StringBuilder text, int depth, int count) {
        int parts = dice.below(3) == 0 ? 2 + dice.below(3) : 1;
        for (int i = 0; i < parts; i++) {
            text.append(i == 0 ? "" : "/").append(blank(dice));
            int length = dice.below(7) == 0 ? 0 : 1 + dice.below(3);
            for (int k = 0; k < length; k++) {
                text.append(dice.below(9) == 0 ? dice.below(2) == 0 ? "&" : "!" : "").append(blank(dice));
                randomPrimary(dice, text, depth, count);
                for (int s = dice.below(4) == 0 ? 1 + dice.below(2) : 0; s > 0; s--) {
                    text.append(blank(dice)).append(new String[] {"?", "*", "+", "^" + (1 + dice.below(3)), "?"}[dice.below(5)]);
                }
                text.append(" ");
            }
        }
    }

    private static void randomPrimary(Peg.Dice dice, StringBuilder text, int depth, int count) {
        int what = dice.below(depth > 0 ? 14 : 9);
        String[] literals = {"'a'", "'b'", "'ab'", "''", "'a'i", "'zB1'i", "'\\n\\x7f'", "'c'"};
        String[] classes = {"[a-c]", "[^a]", "[]", "[^]", "[b]", "[\\]\\-x]", "[^\\x00-\\xfe]", "[c-z]"};
        if (what < 4) {
            text.append(literals[dice.below(literals.length)]);
        } else if (what < 6) {
            text.append(classes[dice.below(classes.length)]);
        } else if (what < 7) {
            text.append('.');
        } else if (what < 9) {
            text.append('r').append(dice.below(60) == 0 ? count : dice.below(count));
        } else {
            boolean capture = what > 11;
            text.append(capture ? "{" : "(");
            randomChoice(dice, text, depth - 1, count);
            text.append(capture ? "}" : ")");
        }
    }
}
