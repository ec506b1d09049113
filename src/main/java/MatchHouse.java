import java.util.Arrays;

/**
 * A house for grammars: a text of rules becomes a program of a small machine, that the bytes of a
 * processor's code, which is checked and run in a closed field of memory.
 */
public final class MatchHouse {

    public static final int NONE = -1;

    private static final int TAPE_LIMIT = 4000;
    private static final int FEED_BYTES = 20;
    private static final int RULE_LIMIT = 60;
    private static final int NAME_LIMIT = 20;
    private static final int NEST_LIMIT = 40;
    private static final int PROGRAM_LIMIT = 2000;
    private static final int SET_LIMIT = 128;
    private static final int IMAGE_LIMIT = 61440;
    private static final int STACK_LIMIT = 1000;
    private static final int MATCH_STEPS = 300000;
    private static final int RUN_STEPS = 100000;

    /** A set of bytes is a row of eight words, byte b the bit b % 32 of the word b / 32. */
    private static final int WORDS = 8;

    private static final int MALFORMED = 1;
    private static final int BAD_NAME = 2;
    private static final int LEFT_RULE = 3;
    private static final int EMPTY_LOOP = 4;
    private static final int TOO_LARGE = 5;

    private static final int NULLABLE = 1;
    private static final int NOFAIL = 2;
    private static final int SURE = 4;
    /** What makes no instruction at all, so that any power of it need not be walked through. */
    private static final int BARE = 8;
    /** A RULE may come to stand here before it has taken a byte. */
    private static final int AHEAD = 16;

    private static final int CHAR = 0;
    private static final int SET = 1;
    private static final int ANY = 2;
    private static final int SPAN = 3;
    private static final int TESTCHAR = 4;
    private static final int TESTSET = 5;
    private static final int TESTANY = 6;
    private static final int JUMP = 7;
    private static final int CHOICE = 8;
    private static final int COMMIT = 9;
    private static final int PARTIAL = 10;
    private static final int BACKCOMMIT = 11;
    private static final int FAILTWICE = 12;
    private static final int FAIL = 13;
    private static final int CALL = 14;
    private static final int RET = 15;
    private static final int OPEN = 16;
    private static final int CLOSE = 17;
    private static final int END = 18;

    private static final int EAX = 0;
    private static final int ECX = 1;
    private static final int EDX = 2;
    private static final int EBX = 3;
    private static final int ESP = 4;
    private static final int EBP = 5;
    private static final int ESI = 6;
    private static final int EDI = 7;

    /** The numbers of the arithmetic instructions, as 81 /n has them. */
    private static final int ADD = 0;
    private static final int AND = 4;
    private static final int SUB = 5;
    private static final int CMP = 7;

    private static final int BUNDLE = 32;
    private static final int CODE_START = 65536;
    private static final int DATA_START = 131072;
    /** CODE and DATA have as many bytes each. */
    private static final int FIELD = 65536;
    private static final int BEHIND_IMAGE = 244;

    /** Where ARM puts things, as offsets in DATA. */
    private static final int SETS_AT = 4096;
    private static final int LENGTH_AT = 8192;
    private static final int ENTRIES_AT = 12288;
    private static final int EVENTS_AT = 28672;
    private static final int ENTRY_BYTES = 16;
    private static final int EVENT_BYTES = 8;

    /** The groups of processor's instructions that are done alike. */
    private static final int OF_SUM = 0;
    private static final int OF_PRODUCT = 1;
    private static final int OF_MOVE = 2;
    private static final int OF_FLOW = 3;
    private static final int OF_STACK = 4;

    private static final int STOP_HLT = 1;
    private static final int STOP_MEMORY = 2;
    private static final int STOP_FETCH = 3;
    private static final int STOP_UNKNOWN = 4;
    private static final int STOP_DIVIDE = 5;

    private static final int NO_MATCH = -2;
    private static final int OVER_STACK = -3;
    private static final int NOT_STOPPED = -4;

    private final byte[] tape = new byte[TAPE_LIMIT];
    private int tapeLength;
    private final byte[] matter = new byte[TAPE_LIMIT];
    private int matterLength;

    private final Tree tree = new Tree();
    private final Parser parser = new Parser(tree);
    private Program kept = new Program();
    private Program spare = new Program();
    private final byte[] bytes = new byte[IMAGE_LIMIT];
    private final Generator generator = new Generator(tree, spare);
    private final Assembler assembler = new Assembler(spare, bytes);
    private int faultKind = NONE;
    private int faultPlace = NONE;

    private final Processor processor = new Processor();
    private final Checker checker = new Checker();

    private final int[] events = new int[2 * STACK_LIMIT];
    private int eventCount;
    private int highest;

    public MatchHouse() {
    }

    public int feed(int a, int b, int c, int d, int e) {
        if (tapeLength + FEED_BYTES > TAPE_LIMIT) {
            return NONE;
        }
        feedNumber(a);
        feedNumber(b);
        feedNumber(c);
        feedNumber(d);
        feedNumber(e);
        return tapeLength;
    }

    private void feedNumber(int v) {
        for (int shift = 24; shift >= 0; shift -= 8) {
            tape[tapeLength] = (byte) (v >> shift);
            tapeLength++;
        }
    }

    public int end(int n) {
        if (n < 0 || n > tapeLength) {
            return NONE;
        }
        tapeLength = n;
        return n;
    }

    public int grammar() {
        int length = tapeLength;
        tapeLength = 0;
        faultPlace = parser.read(tape, length);
        faultKind = faultPlace == NONE ? judgeMeaning() : MALFORMED;
        if (faultKind == 0 && !(generator.write(spare) && assembler.lay(spare))) {
            faultKind = TOO_LARGE;
            faultPlace = length;
        }
        if (faultKind != 0) {
            return NONE;
        }
        Program made = spare;
        spare = kept;
        kept = made;
        return kept.ruleCount;
    }

    /** The kind of the FAULT of a text that is well-formed (0 without one); its place is noted. */
    private int judgeMeaning() {
        faultPlace = tree.nameFault(tape);
        if (faultPlace != NONE) {
            return BAD_NAME;
        }
        tree.settleTraits();
        faultPlace = tree.leftFault();
        if (faultPlace != NONE) {
            return LEFT_RULE;
        }
        faultPlace = tree.loopFault();
        if (faultPlace != NONE) {
            return EMPTY_LOOP;
        }
        tree.settleFirsts();
        return 0;
    }

    public int fault(int what) {
        if (what == 0) {
            return faultKind;
        }
        return what == 1 ? faultPlace : NONE;
    }

    public int count(int what) {
        switch (what) {
            case 0:
                return kept.ruleCount;
            case 1:
                return kept.length;
            case 2:
                return kept.setCount;
            case 3:
                return kept.size;
            case 4:
                return kept.captureCount;
            case 5:
                return matterLength;
            case 6:
                return tapeLength;
            case 7:
                return processor.size;
            default:
                return NONE;
        }
    }

    public int rule(int k, int what) {
        if (k < 0 || k >= kept.ruleCount) {
            return NONE;
        }
        switch (what) {
            case 0:
                return (kept.traits[k] & NULLABLE) != 0 ? 1 : 0;
            case 1:
                return (kept.traits[k] & SURE) != 0 ? 1 : 0;
            case 2:
                return (kept.traits[k] & NOFAIL) != 0 ? 1 : 0;
            case 3:
                return kept.entries[k];
            default:
                return what >= 4 && what < 4 + WORDS ? kept.firsts[k * WORDS + what - 4] : NONE;
        }
    }

    public int program(int i, int what) {
        if (i < 0 || i >= kept.length) {
            return NONE;
        }
        switch (what) {
            case 0:
                return kept.ops[i];
            case 1:
                return kept.args[i];
            case 2:
                return kept.targets[i];
            case 3:
                return kept.places[i];
            default:
                return NONE;
        }
    }

    public int set(int k, int w) {
        boolean there = k >= 0 && k < kept.setCount && w >= 0 && w < WORDS;
        return there ? kept.sets[k * WORDS + w] : 0;
    }

    public int image(int i) {
        return i >= 0 && i < kept.size ? bytes[i] & 255 : NONE;
    }

    public int subject() {
        System.arraycopy(tape, 0, matter, 0, tapeLength);
        matterLength = tapeLength;
        tapeLength = 0;
        return matterLength;
    }

    public boolean arm(int place, int stack) {
        if (!armable(place, stack)) {
            return false;
        }
        armProcessor(place, stack);
        return true;
    }

    private boolean armable(int place, int stack) {
        return kept.ruleCount > 0 && place >= 0 && place <= matterLength
            && stack >= 1 && stack <= STACK_LIMIT;
    }

    private void armProcessor(int place, int stack) {
        processor.takeImage(bytes, kept.size);
        processor.wipe();
        processor.writeBytes(matter, matterLength);
        for (int i = 0; i < kept.setCount * WORDS; i++) {
            processor.writeWord(SETS_AT + 4 * i, kept.sets[i]);
        }
        processor.writeWord(LENGTH_AT, matterLength);
        processor.registers[EBX] = place;
        processor.registers[ESI] = ENTRIES_AT;
        processor.registers[EDI] = EVENTS_AT;
        processor.registers[EBP] = stack;
        processor.leastEbp = stack;
    }

    public int match(int place, int stack) {
        if (!armable(place, stack)) {
            return NONE;
        }
        armProcessor(place, stack);
        processor.makeSteps(MATCH_STEPS);
        highest = Math.min(stack, stack - processor.leastEbp);
        eventCount = 0;
        if (processor.stop != STOP_HLT) {
            return NOT_STOPPED;
        }
        int answer = processor.registers[EAX];
        if (answer < 0) {
            return answer == -1 ? NO_MATCH : OVER_STACK;
        }
        keepEvents();
        return answer - place;
    }

    /** The EVENTS are kept apart, since DATA may be changed by later calls. */
    private void keepEvents() {
        int made = (processor.registers[EDI] - EVENTS_AT) / EVENT_BYTES;
        eventCount = Math.max(0, Math.min(made, STACK_LIMIT));
        for (int i = 0; i < 2 * eventCount; i++) {
            events[i] = processor.readWord(EVENTS_AT + 4 * i);
        }
    }

    public int peak() {
        return highest;
    }

    public int event(int i, int what) {
        if (i < 0 || i >= eventCount) {
            return NONE;
        }
        switch (what) {
            case 0:
                return events[2 * i] >> 1;
            case 1:
                return events[2 * i] & 1;
            case 2:
                return events[2 * i + 1];
            default:
                return NONE;
        }
    }

    public int place() {
        processor.takeImage(tape, tapeLength);
        tapeLength = 0;
        return processor.size;
    }

    public int check(int what) {
        if (what != 0 && what != 1) {
            return NONE;
        }
        checker.judge(processor.code, processor.size);
        return what == 0 ? checker.reason : checker.spot;
    }

    public boolean begin(int at) {
        if (at < 0 || at >= FIELD) {
            return false;
        }
        processor.goTo(CODE_START + at);
        return true;
    }

    public int run(int n) {
        return n >= 0 && n <= RUN_STEPS ? processor.makeSteps(n) : NONE;
    }

    public int get(int what) {
        if (what >= 0 && what < 8) {
            return processor.registers[what];
        }
        switch (what) {
            case 8:
                return processor.flags;
            case 9:
                return processor.eip;
            case 10:
                return processor.stop;
            default:
                return 0;
        }
    }

    public boolean put(int what, int v) {
        if (what < 0 || what > 8) {
            return false;
        }
        if (what == 8) {
            processor.flags = v & Processor.ALL_FLAGS;
        } else {
            processor.registers[what] = v;
        }
        return true;
    }

    public boolean store(int at, int v) {
        if (at < 0 || at > FIELD - 4) {
            return false;
        }
        processor.writeWord(at, v);
        return true;
    }

    public int load(int at) {
        return at >= 0 && at <= FIELD - 4 ? processor.readWord(at) : 0;
    }

    /** What a GRAMMAR was made to: its RULES' traits, the PROGRAM and its SETS. */
    private static final class Program {
        final int[] traits = new int[RULE_LIMIT];
        final int[] entries = new int[RULE_LIMIT];
        final int[] firsts = new int[RULE_LIMIT * WORDS];
        final int[] ops = new int[PROGRAM_LIMIT];
        final int[] args = new int[PROGRAM_LIMIT];
        final int[] targets = new int[PROGRAM_LIMIT];
        /** Behind the instructions' places those of FAIL, NO and OVER. */
        final int[] places = new int[PROGRAM_LIMIT + 3];
        final int[] sets = new int[SET_LIMIT * WORDS];
        int ruleCount;
        int captureCount;
        /** How many instructions it has. */
        int length;
        int setCount;
        /** How many bytes its IMAGE has. */
        int size;
    }

    /**
     * What stands in the RULES, as nodes. A node's parts have lesser numbers than itself, so a loop
     * along the numbers sees the parts first, and one back sees them last.
     */
    private static final class Tree {
        static final int EMPTY = 0;
        static final int PLAIN = 1;
        /** A SEQUENCE, or a CHOICE, has a first part at the left and all others at the right. */
        static final int SEQUENCE = 2;
        static final int CHOICES = 3;
        static final int OPTION = 4;
        static final int STAR = 5;
        static final int PLUS = 6;
        static final int LOOK = 7;
        static final int REFUSE = 8;
        /** Its {'s number at the right. */
        static final int CAPTURE = 9;
        /** Its place at the left and its length at the right; later its RULE at the left. */
        static final int NAME = 10;
        /** How many times at the right. */
        static final int POWER = 11;

        /** A byte of the text makes at most a part and a node that binds it to others. */
        private static final int NODE_LIMIT = 2 * TAPE_LIMIT + 200;
        /** A round brings what is known of one RULE more, for NOFAIL and then SURE. */
        private static final int ROUND_LIMIT = 4 * RULE_LIMIT;

        final int[] kinds = new int[NODE_LIMIT];
        final int[] lefts = new int[NODE_LIMIT];
        final int[] rights = new int[NODE_LIMIT];
        final int[] spots = new int[NODE_LIMIT];
        final int[] traits = new int[NODE_LIMIT];
        final int[] firsts = new int[NODE_LIMIT * WORDS];
        int size;

        final int[] roots = new int[RULE_LIMIT];
        private final int[] nameSpots = new int[RULE_LIMIT];
        private final int[] nameLengths = new int[RULE_LIMIT];
        int ruleCount;
        int captureCount;
        /** Bit k of row r: RULE r begins with RULE k. */
        private final long[] begins = new long[RULE_LIMIT];

        void clear() {
            size = 0;
            ruleCount = 0;
            captureCount = 0;
        }

        int make(int kind, int left, int right, int spot) {
            int node = Math.min(size, NODE_LIMIT - 1);
            size = node + 1;
            kinds[node] = kind;
            lefts[node] = left;
            rights[node] = right;
            spots[node] = spot;
            traits[node] = 0;
            Arrays.fill(firsts, node * WORDS, node * WORDS + WORDS, 0);
            return node;
        }

        void addRule(int spot, int length, int root) {
            if (ruleCount < RULE_LIMIT) {
                nameSpots[ruleCount] = spot;
                nameLengths[ruleCount] = length;
                roots[ruleCount] = root;
                ruleCount++;
            }
        }

        void addByte(int node, int b) {
            firsts[node * WORDS + (b >> 5 & 7)] |= 1 << (b & 31);
        }

        void turnBytes(int node) {
            for (int w = 0; w < WORDS; w++) {
                firsts[node * WORDS + w] = ~firsts[node * WORDS + w];
            }
        }

        boolean unite(int node, int other) {
            boolean more = false;
            for (int w = 0; w < WORDS; w++) {
                int old = firsts[node * WORDS + w];
                int both = old | firsts[other * WORDS + w];
                firsts[node * WORDS + w] = both;
                more |= both != old;
            }
            return more;
        }

        boolean has(int node, int trait) {
            return (traits[node] & trait) != 0;
        }

        /** Where the first NAME stands that is wrong; the others come to know their RULE. */
        int nameFault(byte[] text) {
            int twice = NONE;
            for (int k = 0; k < ruleCount && twice == NONE; k++) {
                if (findRule(text, nameSpots[k], nameLengths[k]) < k) {
                    twice = nameSpots[k];
                }
            }
            for (int i = 0; i < size; i++) {
                if (kinds[i] == NAME) {
                    int k = findRule(text, lefts[i], rights[i]);
                    if (k == NONE) {
                        return twice == NONE ? lefts[i] : Math.min(twice, lefts[i]);
                    }
                    lefts[i] = k;
                }
            }
            return twice;
        }

        private int findRule(byte[] text, int spot, int length) {
            for (int k = 0; k < ruleCount; k++) {
                if (nameLengths[k] == length && sameBytes(text, nameSpots[k], spot, length)) {
                    return k;
                }
            }
            return NONE;
        }

        private static boolean sameBytes(byte[] text, int one, int other, int length) {
            for (int i = 0; i < length; i++) {
                if (text[one + i] != text[other + i]) {
                    return false;
                }
            }
            return true;
        }

        void settleTraits() {
            boolean more = true;
            for (int round = 0; more && round < ROUND_LIMIT; round++) {
                more = false;
                for (int i = 0; i < size; i++) {
                    int now = traitsOf(i);
                    more |= now != traits[i];
                    traits[i] = now;
                }
            }
        }

        private int traitsOf(int node) {
            int kind = kinds[node];
            if (kind == EMPTY) {
                return NULLABLE | NOFAIL | BARE;
            }
            if (kind == PLAIN) {
                return SURE;
            }
            if (kind == NAME) {
                return traits[roots[lefts[node]]] & ~BARE;
            }
            int first = traits[lefts[node]];
            switch (kind) {
                case SEQUENCE:
                    return inSequence(first, traits[rights[node]]);
                case POWER:
                    return inSequence(first, first);
                case CHOICES:
                    int others = traits[rights[node]];
                    return (first | others) & (NULLABLE | NOFAIL) | first & others & SURE;
                case PLUS:
                    return first & (NULLABLE | SURE);
                case CAPTURE:
                    return first & ~BARE;
                case LOOK:
                case REFUSE:
                    return NULLABLE;
                default:
                    return NULLABLE | NOFAIL;
            }
        }

        private static int inSequence(int first, int others) {
            int all = first & others & (NULLABLE | NOFAIL | BARE);
            return (others & NOFAIL) != 0 ? all | first & SURE : all;
        }

        /** Where the NAME of the first RULE that is LEFT stands. */
        int leftFault() {
            markAhead();
            noteBegins();
            for (int middle = 0; middle < ruleCount; middle++) {
                for (int k = 0; k < ruleCount; k++) {
                    if ((begins[k] >> middle & 1) != 0) {
                        begins[k] |= begins[middle];
                    }
                }
            }
            for (int k = 0; k < ruleCount; k++) {
                if ((begins[k] >> k & 1) != 0) {
                    return nameSpots[k];
                }
            }
            return NONE;
        }

        private void markAhead() {
            for (int k = 0; k < ruleCount; k++) {
                traits[roots[k]] |= AHEAD;
            }
            for (int i = size - 1; i >= 0; i--) {
                if (has(i, AHEAD) && kinds[i] != NAME && kinds[i] > PLAIN) {
                    traits[lefts[i]] |= AHEAD;
                    if (kinds[i] == CHOICES || kinds[i] == SEQUENCE && has(lefts[i], NULLABLE)) {
                        traits[rights[i]] |= AHEAD;
                    }
                }
            }
        }

        private void noteBegins() {
            int node = 0;
            for (int k = 0; k < ruleCount; k++) {
                begins[k] = 0;
                for (; node <= roots[k]; node++) {
                    if (kinds[node] == NAME && has(node, AHEAD)) {
                        begins[k] |= 1L << lefts[node];
                    }
                }
            }
        }

        /** Where the first * or + stands whose loop could turn without taking a byte. */
        int loopFault() {
            int least = NONE;
            for (int i = 0; i < size; i++) {
                boolean loop = kinds[i] == STAR || kinds[i] == PLUS;
                if (loop && has(lefts[i], NULLABLE) && (least == NONE || spots[i] < least)) {
                    least = spots[i];
                }
            }
            return least;
        }

        void settleFirsts() {
            boolean more = true;
            for (int round = 0; more && round < ROUND_LIMIT; round++) {
                more = false;
                for (int i = 0; i < size; i++) {
                    more |= growFirst(i);
                }
            }
        }

        private boolean growFirst(int node) {
            int left = lefts[node];
            switch (kinds[node]) {
                case EMPTY:
                case PLAIN:
                case LOOK:
                case REFUSE:
                    return false;
                case NAME:
                    return unite(node, roots[left]);
                case CHOICES:
                    return unite(node, left) | unite(node, rights[node]);
                case SEQUENCE:
                    boolean more = unite(node, left);
                    return has(left, NULLABLE) ? more | unite(node, rights[node]) : more;
                default:
                    return unite(node, left);
            }
        }

        boolean firstsMeet(int node, int other) {
            for (int w = 0; w < WORDS; w++) {
                if ((firsts[node * WORDS + w] & firsts[other * WORDS + w]) != 0) {
                    return true;
                }
            }
            return false;
        }

        int firstSize(int node) {
            int bits = 0;
            for (int w = 0; w < WORDS; w++) {
                bits += Integer.bitCount(firsts[node * WORDS + w]);
            }
            return bits;
        }

        int lowestFirst(int node) {
            for (int b = 0; b < 32 * WORDS; b++) {
                if ((firsts[node * WORDS + (b >> 5)] >> (b & 31) & 1) != 0) {
                    return b;
                }
            }
            return 0;
        }
    }

    /** Reads a text, byte by byte, up to the first with which no GRAMMAR goes on. */
    private static final class Parser {
        private final Tree tree;
        private byte[] text;
        private int length;
        private int at;
        private int wrong;
        /** Parts of the SEQUENCES and CHOICES that are not yet read to their ends. */
        private final int[] parts = new int[TAPE_LIMIT + 200];
        private int partCount;

        Parser(Tree tree) {
            this.tree = tree;
            this.text = new byte[0];
        }

        /** The place of the byte that is wrong, NONE if the text is a GRAMMAR. */
        int read(byte[] bytes, int count) {
            text = bytes;
            length = Math.min(count, bytes.length);
            at = 0;
            wrong = NONE;
            partCount = 0;
            tree.clear();
            skipBlanks();
            for (int k = 0; k < RULE_LIMIT && at < length && wrong == NONE; k++) {
                readRule();
                skipBlanks();
            }
            if (wrong == NONE && (at < length || tree.ruleCount == 0)) {
                wrong = at;
            }
            return wrong;
        }

        private int refuseAt(int spot) {
            if (wrong == NONE) {
                wrong = spot;
            }
            return NONE;
        }

        /** The byte that comes next, NONE at the end. */
        private int ahead() {
            return at < length ? text[at] & 255 : NONE;
        }

        private void skipBlanks() {
            boolean comment = false;
            for (; at < length; at++) {
                int c = text[at] & 255;
                if (c == '#') {
                    comment = true;
                } else if (c == '\n') {
                    comment = false;
                } else if (!comment && c != ' ' && c != '\t' && c != '\r') {
                    return;
                }
            }
        }

        private void expect(int c) {
            if (wrong != NONE) {
                return;
            }
            skipBlanks();
            if (ahead() == c) {
                at++;
            } else {
                refuseAt(at);
            }
        }

        private void readRule() {
            int spot = at;
            int nameLength = readName();
            expect('=');
            int root = wrong == NONE ? readChoice(0) : NONE;
            expect(';');
            if (wrong == NONE) {
                tree.addRule(spot, nameLength, root);
            }
        }

        private static boolean startsName(int c) {
            return c >= 'a' && c <= 'z' || c >= 'A' && c <= 'Z' || c == '_';
        }

        private static boolean goesOnName(int c) {
            return startsName(c) || c >= '0' && c <= '9';
        }

        private int readName() {
            int spot = at;
            if (!startsName(ahead())) {
                return refuseAt(at);
            }
            for (int k = 0; k < NAME_LIMIT && goesOnName(ahead()); k++) {
                at++;
            }
            if (goesOnName(ahead())) {
                return refuseAt(at);
            }
            return at - spot;
        }

        /** How many &, !, ( and { are open is carried along; each method here answers a node. */
        private int readChoice(int depth) {
            int base = partCount;
            addAlternative(base, readSequence(depth));
            for (int k = at; k < length && wrong == NONE && ahead() == '/'; k++) {
                at++;
                addAlternative(base, readSequence(depth));
            }
            return fold(Tree.CHOICES, base);
        }

        /** PLAIN neighbours become one PLAIN, so the one ahead takes the other's bytes over. */
        private void addAlternative(int base, int node) {
            boolean plain = node != NONE && tree.kinds[node] == Tree.PLAIN;
            if (plain && partCount > base && tree.kinds[parts[partCount - 1]] == Tree.PLAIN) {
                tree.unite(parts[partCount - 1], node);
            } else {
                addPart(node);
            }
        }

        private void addPart(int node) {
            if (node != NONE && partCount < parts.length) {
                parts[partCount] = node;
                partCount++;
            }
        }

        private int readSequence(int depth) {
            int base = partCount;
            skipBlanks();
            for (int k = at; k < length && wrong == NONE && startsPrefix(ahead()); k++) {
                addPart(readPrefix(depth));
                skipBlanks();
            }
            return fold(Tree.SEQUENCE, base);
        }

        private static boolean startsPrefix(int c) {
            return startsName(c) || c == '&' || c == '!' || c == '(' || c == '{' || c == '\''
                || c == '[' || c == '.';
        }

        /** Binds the parts from base on, the last ones first. */
        private int fold(int kind, int base) {
            int top = partCount;
            partCount = base;
            if (wrong != NONE) {
                return NONE;
            }
            if (top == base) {
                return tree.make(Tree.EMPTY, 0, 0, at);
            }
            int node = parts[top - 1];
            for (int i = top - 2; i >= base; i--) {
                node = tree.make(kind, parts[i], node, at);
            }
            return node;
        }

        private int readPrefix(int depth) {
            int c = ahead();
            if (c != '&' && c != '!') {
                return readSuffixes(readPrimary(depth));
            }
            int spot = at;
            if (depth >= NEST_LIMIT) {
                return refuseAt(spot);
            }
            at++;
            skipBlanks();
            int e = readPrefix(depth + 1);
            return e == NONE ? NONE : tree.make(c == '&' ? Tree.LOOK : Tree.REFUSE, e, 0, spot);
        }

        private int readSuffixes(int primary) {
            int node = primary;
            for (int k = 0; k < 3 && node != NONE; k++) {
                skipBlanks();
                int spot = at;
                int c = ahead();
                if (c == '^') {
                    at++;
                    node = readPower(node, spot);
                } else if (c == '?' || c == '*' || c == '+') {
                    at++;
                    int kind = c == '?' ? Tree.OPTION : c == '*' ? Tree.STAR : Tree.PLUS;
                    node = tree.make(kind, node, 0, spot);
                } else {
                    return node;
                }
            }
            return node;
        }

        private int readPower(int node, int spot) {
            int times = ahead() - '0';
            if (times < 1 || times > 9) {
                return refuseAt(at);
            }
            at++;
            return times == 1 ? node : tree.make(Tree.POWER, node, times, spot);
        }

        private int readPrimary(int depth) {
            int c = ahead();
            int spot = at;
            if (startsName(c)) {
                int nameLength = readName();
                return wrong == NONE ? tree.make(Tree.NAME, spot, nameLength, spot) : NONE;
            }
            switch (c) {
                case '\'':
                    return readLiteral();
                case '[':
                    return readClass();
                case '.':
                    at++;
                    int node = tree.make(Tree.PLAIN, 0, 0, spot);
                    tree.turnBytes(node);
                    return node;
                case '(':
                case '{':
                    break;
                default:
                    return refuseAt(spot);
            }
            if (depth >= NEST_LIMIT) {
                return refuseAt(spot);
            }
            at++;
            int number = tree.captureCount;
            tree.captureCount += c == '{' ? 1 : 0;
            int inner = readChoice(depth + 1);
            expect(c == '{' ? '}' : ')');
            if (wrong != NONE) {
                return NONE;
            }
            return c == '{' ? tree.make(Tree.CAPTURE, inner, number, spot) : inner;
        }

        private int readLiteral() {
            int base = partCount;
            at++;
            for (int k = at; k < length && wrong == NONE && ahead() != '\''; k++) {
                int spot = at;
                int b = readByte(false);
                if (wrong == NONE) {
                    int node = tree.make(Tree.PLAIN, b, 0, spot);
                    tree.addByte(node, b);
                    addPart(node);
                }
            }
            if (at >= length) {
                refuseAt(length);
            }
            at++;
            if (wrong == NONE && ahead() == 'i') {
                at++;
                bothCases(base);
            }
            return fold(Tree.SEQUENCE, base);
        }

        private void bothCases(int base) {
            for (int i = base; i < partCount; i++) {
                int b = tree.lefts[parts[i]];
                if (startsName(b) && b != '_') {
                    tree.addByte(parts[i], b ^ 32);
                }
            }
        }

        private int readClass() {
            int node = tree.make(Tree.PLAIN, 0, 0, at);
            at++;
            boolean others = ahead() == '^';
            if (others) {
                at++;
            }
            for (int k = at; k < length && wrong == NONE && ahead() != ']'; k++) {
                int low = readByte(true);
                boolean range = wrong == NONE && ahead() == '-';
                at += range ? 1 : 0;
                int spot = at;
                int high = range ? readByte(true) : low;
                if (high < low) {
                    refuseAt(spot);
                }
                for (int b = low; wrong == NONE && b <= high; b++) {
                    tree.addByte(node, b);
                }
            }
            if (at >= length) {
                refuseAt(length);
            }
            if (wrong != NONE) {
                return NONE;
            }
            at++;
            if (others) {
                tree.turnBytes(node);
            }
            return node;
        }

        /** The byte that is told, NONE if none is. */
        private int readByte(boolean inClass) {
            int c = ahead();
            if (c == '\\') {
                at++;
                return readEscape();
            }
            boolean closing = inClass ? c == ']' || c == '-' : c == '\'';
            if (c < 32 || c > 126 || closing) {
                return refuseAt(at);
            }
            at++;
            return c;
        }

        private int readEscape() {
            int c = ahead();
            int b = 0;
            switch (c) {
                case 'n':
                    b = 10;
                    break;
                case 't':
                    b = 9;
                    break;
                case 'r':
                    b = 13;
                    break;
                case '\'':
                case ']':
                case '-':
                case '\\':
                case '^':
                    b = c;
                    break;
                case 'x':
                    break;
                default:
                    return refuseAt(at);
            }
            at++;
            for (int k = 0; k < 2 && c == 'x'; k++) {
                int digit = hexValue(ahead());
                if (digit == NONE) {
                    return refuseAt(at);
                }
                at++;
                b = 16 * b + digit;
            }
            return b;
        }

        private static int hexValue(int c) {
            if (c >= '0' && c <= '9') {
                return c - '0';
            }
            return c >= 'a' && c <= 'f' ? c - 'a' + 10 : NONE;
        }
    }

    /** Makes the PROGRAM of the tree. */
    private static final class Generator {
        /** Tasks beside those to write an instruction: a node's code, a label, a TEST. */
        private static final int GROW = 32;
        private static final int BIND = 33;
        private static final int TEST = 34;

        private static final int TASK_FIELDS = 3;
        private static final int TASK_LIMIT = 4000;
        private static final int PLAN_LIMIT = 16;
        private static final int LABEL_LIMIT = 3 * PROGRAM_LIMIT;
        private static final int STEP_LIMIT = 10000000;

        private final Tree tree;
        private Program out;
        /** What is still to do, the next at the top: no recursion, as ^ and ( go deep together. */
        private final int[] tasks = new int[TASK_LIMIT * TASK_FIELDS];
        private int taskCount;
        private final int[] plan = new int[PLAN_LIMIT * TASK_FIELDS];
        private int planned;
        private final int[] labels = new int[LABEL_LIMIT];
        private int labelCount;
        private boolean large;

        Generator(Tree tree, Program first) {
            this.tree = tree;
            this.out = first;
        }

        /** False if the PROGRAM is too large. */
        boolean write(Program target) {
            out = target;
            out.length = 0;
            out.setCount = 0;
            out.ruleCount = tree.ruleCount;
            out.captureCount = tree.captureCount;
            labelCount = 0;
            large = false;
            emit(CALL, 0, 0);
            emit(END, 0, NONE);
            for (int k = 0; k < tree.ruleCount && !large; k++) {
                out.entries[k] = out.length;
                out.traits[k] = tree.traits[tree.roots[k]];
                System.arraycopy(tree.firsts, tree.roots[k] * WORDS, out.firsts, k * WORDS, WORDS);
                growAll(tree.roots[k]);
                emit(RET, 0, NONE);
            }
            if (!large) {
                settleTargets();
                threadTargets();
                shortenJumps();
                turnLastCalls();
                threadTargets();
                shortenJumps();
            }
            return !large;
        }

        private void growAll(int root) {
            taskCount = 0;
            planned = 0;
            plan(GROW, root, NONE);
            schedule();
            for (int step = 0; step < STEP_LIMIT && taskCount > 0 && !large; step++) {
                taskCount--;
                int base = taskCount * TASK_FIELDS;
                perform(tasks[base], tasks[base + 1], tasks[base + 2]);
            }
            large |= taskCount > 0;
        }

        private void plan(int what, int value, int label) {
            if (planned < PLAN_LIMIT) {
                int base = planned * TASK_FIELDS;
                plan[base] = what;
                plan[base + 1] = value;
                plan[base + 2] = label;
                planned++;
            }
        }

        /** The plan's last goes to the tasks first, so that its first is at the top. */
        private void schedule() {
            if (taskCount + planned > TASK_LIMIT) {
                large = true;
                planned = 0;
            }
            for (int i = planned - 1; i >= 0; i--) {
                System.arraycopy(plan, i * TASK_FIELDS, tasks, taskCount * TASK_FIELDS, TASK_FIELDS);
                taskCount++;
            }
            planned = 0;
        }

        private int newLabel() {
            if (labelCount >= LABEL_LIMIT) {
                large = true;
                return 0;
            }
            labelCount++;
            return labelCount - 1;
        }

        private void perform(int what, int value, int label) {
            switch (what) {
                case GROW:
                    if (!tree.has(value, BARE)) {
                        grow(value);
                        schedule();
                    }
                    break;
                case BIND:
                    labels[label] = out.length;
                    break;
                case TEST:
                    emitTest(value, label);
                    break;
                case SPAN:
                    emit(SPAN, numberOfSet(value), NONE);
                    break;
                default:
                    emit(what, value, label);
                    break;
            }
        }

        private void grow(int node) {
            int e = tree.lefts[node];
            int other = tree.rights[node];
            switch (tree.kinds[node]) {
                case Tree.PLAIN:
                    emitPlain(node);
                    break;
                case Tree.NAME:
                    emit(CALL, 0, e);
                    break;
                case Tree.SEQUENCE:
                    plan(GROW, e, NONE);
                    plan(GROW, other, NONE);
                    break;
                case Tree.POWER:
                    for (int k = 0; k < other; k++) {
                        plan(GROW, e, NONE);
                    }
                    break;
                case Tree.CAPTURE:
                    plan(OPEN, other, NONE);
                    plan(GROW, e, NONE);
                    plan(CLOSE, other, NONE);
                    break;
                case Tree.CHOICES:
                    planChoice(e, other);
                    break;
                case Tree.OPTION:
                    planOption(e);
                    break;
                case Tree.STAR:
                    planStar(e);
                    break;
                case Tree.PLUS:
                    plan(GROW, e, NONE);
                    planStar(e);
                    break;
                case Tree.REFUSE:
                    planRefuse(e);
                    break;
                case Tree.LOOK:
                    planLook(e);
                    break;
                default:
                    break;
            }
        }

        private void planTry(int e, int label) {
            if (!tree.has(e, NULLABLE)) {
                plan(TEST, e, label);
            }
            plan(CHOICE, 0, label);
            plan(GROW, e, NONE);
        }

        private void planChoice(int e, int others) {
            int one = newLabel();
            int two = newLabel();
            boolean apart = !tree.has(e, NULLABLE) && !tree.has(others, NULLABLE)
                && !tree.firstsMeet(e, others);
            if (tree.has(e, SURE) || apart) {
                plan(TEST, e, one);
                plan(GROW, e, NONE);
                plan(JUMP, 0, two);
            } else {
                planTry(e, one);
                plan(COMMIT, 0, two);
            }
            plan(BIND, 0, one);
            plan(GROW, others, NONE);
            plan(BIND, 0, two);
        }

        private void planOption(int e) {
            int one = newLabel();
            if (tree.has(e, SURE)) {
                plan(TEST, e, one);
                plan(GROW, e, NONE);
            } else {
                planTry(e, one);
                plan(COMMIT, 0, one);
            }
            plan(BIND, 0, one);
        }

        private void planStar(int e) {
            if (tree.kinds[e] == Tree.PLAIN) {
                plan(SPAN, e, NONE);
                return;
            }
            int one = newLabel();
            int two = newLabel();
            if (tree.has(e, SURE)) {
                plan(BIND, 0, one);
                plan(TEST, e, two);
                plan(GROW, e, NONE);
                plan(JUMP, 0, one);
            } else {
                plan(TEST, e, two);
                plan(CHOICE, 0, two);
                plan(BIND, 0, one);
                plan(GROW, e, NONE);
                plan(PARTIAL, 0, one);
            }
            plan(BIND, 0, two);
        }

        private void planRefuse(int e) {
            int one = newLabel();
            if (tree.has(e, SURE)) {
                plan(TEST, e, one);
                plan(FAIL, 0, NONE);
            } else {
                planTry(e, one);
                plan(FAILTWICE, 0, NONE);
            }
            plan(BIND, 0, one);
        }

        private void planLook(int e) {
            int one = newLabel();
            int two = newLabel();
            if (tree.has(e, SURE)) {
                plan(TEST, e, one);
                plan(JUMP, 0, two);
            } else {
                planTry(e, one);
                plan(BACKCOMMIT, 0, two);
            }
            plan(BIND, 0, one);
            plan(FAIL, 0, NONE);
            plan(BIND, 0, two);
        }

        private void emit(int op, int arg, int target) {
            if (out.length >= PROGRAM_LIMIT) {
                large = true;
                return;
            }
            out.ops[out.length] = op;
            out.args[out.length] = arg;
            out.targets[out.length] = target;
            out.length++;
        }

        private void emitPlain(int node) {
            int bytes = tree.firstSize(node);
            if (bytes == 1) {
                emit(CHAR, tree.lowestFirst(node), NONE);
            } else if (bytes == 256) {
                emit(ANY, 0, NONE);
            } else {
                emit(SET, numberOfSet(node), NONE);
            }
        }

        private void emitTest(int node, int label) {
            int bytes = tree.firstSize(node);
            if (bytes == 1) {
                emit(TESTCHAR, tree.lowestFirst(node), label);
            } else if (bytes == 256) {
                emit(TESTANY, 0, label);
            } else {
                emit(TESTSET, numberOfSet(node), label);
            }
        }

        private int numberOfSet(int node) {
            for (int s = 0; s < out.setCount; s++) {
                if (isSet(s, node)) {
                    return s;
                }
            }
            if (out.setCount >= SET_LIMIT) {
                large = true;
                return 0;
            }
            int added = out.setCount;
            System.arraycopy(tree.firsts, node * WORDS, out.sets, added * WORDS, WORDS);
            out.setCount++;
            return added;
        }

        private boolean isSet(int s, int node) {
            for (int w = 0; w < WORDS; w++) {
                if (out.sets[s * WORDS + w] != tree.firsts[node * WORDS + w]) {
                    return false;
                }
            }
            return true;
        }

        /** Until here targets were labels, and RULES' numbers in a CALL. */
        private void settleTargets() {
            for (int i = 0; i < out.length; i++) {
                int target = out.targets[i];
                if (target != NONE) {
                    out.targets[i] = out.ops[i] == CALL ? out.entries[target] : labels[target];
                }
            }
        }

        private void threadTargets() {
            for (int i = 0; i < out.length; i++) {
                int target = out.targets[i];
                for (int hop = 0; hop < out.length && target != NONE; hop++) {
                    if (out.ops[target] != JUMP) {
                        break;
                    }
                    target = out.targets[target];
                }
                out.targets[i] = target;
            }
        }

        private void shortenJumps() {
            for (int i = 0; i < out.length; i++) {
                if (out.ops[i] == JUMP) {
                    int there = out.ops[out.targets[i]];
                    if (there == RET || there == FAIL) {
                        out.ops[i] = there;
                        out.targets[i] = NONE;
                    }
                }
            }
        }

        private void turnLastCalls() {
            for (int i = 0; i + 1 < out.length; i++) {
                if (out.ops[i] == CALL && out.ops[i + 1] == RET) {
                    out.ops[i] = JUMP;
                }
            }
        }
    }

    /** Lays the IMAGE of a PROGRAM. */
    private static final class Assembler {
        private static final int ALWAYS = -1;
        private static final int NOT_BELOW = 3;
        private static final int EQUAL = 4;
        private static final int NOT_EQUAL = 5;
        private static final int SIGNED = 8;
        private static final int NOP = 0x90;
        private static final int HLT = 0xF4;
        /** The opcodes of mov M, r and mov r, M. */
        private static final int TO_M = 0x89;
        private static final int FROM_M = 0x8B;
        /** A SPAN has three jumps, no instruction more; FAIL has two. */
        private static final int JUMP_LIMIT = 3 * PROGRAM_LIMIT + 2;

        private Program out;
        private final byte[] bytes;
        private int at;
        /** The bytes are kept as they are until all is known to fit. */
        private boolean writing;
        /** The label that stands at the next byte that is no nop; NONE if there is none. */
        private int waiting;
        private final boolean[] aligned = new boolean[PROGRAM_LIMIT];
        private final boolean[] near = new boolean[JUMP_LIMIT];
        private final int[] jumpEnds = new int[JUMP_LIMIT];
        private final int[] jumpLabels = new int[JUMP_LIMIT];
        private int jumpCount;

        Assembler(Program first, byte[] bytes) {
            this.out = first;
            this.bytes = bytes;
        }

        /** False if the IMAGE is too large. */
        boolean lay(Program target) {
            out = target;
            noteAligned();
            for (int j = 0; j < JUMP_LIMIT; j++) {
                near[j] = false;
            }
            writing = false;
            boolean again = true;
            for (int round = 0; again && round <= JUMP_LIMIT; round++) {
                walk();
                again = widenJumps();
            }
            if (at > IMAGE_LIMIT) {
                return false;
            }
            writing = true;
            Arrays.fill(bytes, (byte) NOP);
            walk();
            out.size = at;
            return true;
        }

        /** What a return or a choice tells is reached by GO, which can go to BUNDLES alone. */
        private void noteAligned() {
            for (int i = 0; i < out.length; i++) {
                aligned[i] = i > 0 && out.ops[i - 1] == CALL;
            }
            for (int i = 0; i < out.length; i++) {
                if (out.ops[i] == CHOICE) {
                    aligned[out.targets[i]] = true;
                }
            }
        }

        /** True if there were jumps that do not reach. */
        private boolean widenJumps() {
            boolean more = false;
            for (int j = 0; j < jumpCount; j++) {
                int way = out.places[jumpLabels[j]] - jumpEnds[j];
                if (!near[j] && way != (byte) way) {
                    near[j] = true;
                    more = true;
                }
            }
            return more;
        }

        private void walk() {
            at = 0;
            jumpCount = 0;
            for (int i = 0; i < out.length; i++) {
                if (aligned[i]) {
                    fit(BUNDLE);
                }
                waiting = i;
                if (out.ops[i] <= TESTANY) {
                    layTaking(i);
                } else {
                    layMoving(i);
                }
            }
            layFail();
            layHalt(out.length + 1, -1);
            layHalt(out.length + 2, -2);
        }

        private void layTaking(int i) {
            int op = out.ops[i];
            int miss = op == SPAN ? i + 1 : op < SPAN ? out.length : out.targets[i];
            compareEnd(miss);
            if (op == CHAR || op == TESTCHAR) {
                fetchNext();
                withNumber(CMP, EAX, out.args[i]);
                jump(NOT_EQUAL, miss);
            } else if (op != ANY && op != TESTANY) {
                fetchNext();
                askSet(out.args[i], miss);
            }
            if (op <= SPAN) {
                single(0x40 + EBX);
            }
            if (op == SPAN) {
                jump(ALWAYS, i);
            }
        }

        private void layMoving(int i) {
            int target = out.targets[i];
            switch (out.ops[i]) {
                case CHOICE:
                    layEntry(out.places[target], false);
                    break;
                case CALL:
                    layEntry(out.places[i + 1], true);
                    jump(ALWAYS, target);
                    break;
                case COMMIT:
                    withNumber(SUB, ESI, ENTRY_BYTES);
                    single(0x40 + EBP);
                    jump(ALWAYS, target);
                    break;
                case PARTIAL:
                    layPartial(target);
                    break;
                case BACKCOMMIT:
                    layBackCommit(target);
                    break;
                case FAILTWICE:
                    withNumber(SUB, ESI, ENTRY_BYTES);
                    jump(ALWAYS, out.length);
                    break;
                case RET:
                    layReturn();
                    goToEcx();
                    break;
                case OPEN:
                case CLOSE:
                    layEvent(2 * out.args[i] + (out.ops[i] == CLOSE ? 1 : 0));
                    break;
                case END:
                    between(EAX, EBX);
                    single(HLT);
                    break;
                default:
                    jump(ALWAYS, target == NONE ? out.length : target);
                    break;
            }
        }

        private void layEntry(int told, boolean isReturn) {
            between(EAX, ESI);
            moveNumber(ECX, told);
            fit(isReturn ? 28 : 30);
            withNumber(AND, EAX, 65520);
            withField(TO_M, ECX, 0);
            if (isReturn) {
                numberToField(-1, 4);
            } else {
                withField(TO_M, EBX, 4);
                withField(TO_M, EDI, 8);
            }
            withField(TO_M, EBP, 12);
            withNumber(ADD, ESI, ENTRY_BYTES);
            single(0x48 + EBP);
            jump(SIGNED, out.length + 2);
        }

        private void layPartial(int target) {
            between(EAX, ESI);
            withNumber(SUB, EAX, ENTRY_BYTES);
            fit(6);
            twoBytes(0x8D, 0x80 + 8 * ECX + EBP);
            fourBytes(1);
            fit(24);
            withNumber(AND, EAX, 65520);
            withField(TO_M, EBX, 4);
            withField(TO_M, EDI, 8);
            withField(TO_M, ECX, 12);
            jump(ALWAYS, target);
        }

        private void layBackCommit(int target) {
            withNumber(SUB, ESI, ENTRY_BYTES);
            between(EAX, ESI);
            fit(24);
            withNumber(AND, EAX, 65520);
            withField(FROM_M, EBX, 4);
            withField(FROM_M, EDI, 8);
            withField(FROM_M, EBP, 12);
            jump(ALWAYS, target);
        }

        private void layReturn() {
            withNumber(SUB, ESI, ENTRY_BYTES);
            single(0x40 + EBP);
            between(EAX, ESI);
            fit(12);
            withNumber(AND, EAX, 65520);
            withField(FROM_M, ECX, 0);
        }

        private void layEvent(int what) {
            between(EAX, EDI);
            moveNumber(ECX, what);
            fit(18);
            withNumber(AND, EAX, 65528);
            withField(TO_M, ECX, 0);
            withField(TO_M, EBX, 4);
            withNumber(ADD, EDI, EVENT_BYTES);
            single(0x48 + EBP);
            jump(SIGNED, out.length + 2);
        }

        private void layFail() {
            waiting = out.length;
            withNumber(CMP, ESI, ENTRIES_AT);
            jump(EQUAL, out.length + 1);
            withNumber(SUB, ESI, ENTRY_BYTES);
            between(EAX, ESI);
            fit(30);
            withNumber(AND, EAX, 65520);
            withField(FROM_M, ECX, 0);
            withField(FROM_M, EBX, 4);
            withField(FROM_M, EDX, 8);
            withField(FROM_M, EBP, 12);
            withNumber(CMP, EBX, -1);
            jump(EQUAL, out.length);
            between(EDI, EDX);
            goToEcx();
        }

        private void layHalt(int label, int answer) {
            waiting = label;
            moveNumber(EAX, answer);
            single(HLT);
        }

        private void compareEnd(int miss) {
            fit(6);
            twoBytes(0x3B, 8 * EBX + 5);
            fourBytes(DATA_START + LENGTH_AT);
            jump(NOT_BELOW, miss);
        }

        private void fetchNext() {
            between(EAX, EBX);
            fit(13);
            withNumber(AND, EAX, 65535);
            oneByte(0x0F);
            twoBytes(0xB6, 0x80 + 8 * EAX + EAX);
            fourBytes(DATA_START);
        }

        private void askSet(int s, int miss) {
            between(ECX, EAX);
            fit(3);
            twoBytes(0xC1, 0xC0 + 8 * 5 + EAX);
            oneByte(5);
            fit(7);
            twoBytes(0x8D, 8 * EAX + 4);
            oneByte(0x80 + 8 * EAX + 5);
            fourBytes(SETS_AT + 4 * WORDS * s);
            fit(12);
            withNumber(AND, EAX, 65532);
            withField(FROM_M, EAX, 0);
            fit(3);
            twoBytes(0x0F, 0xA3);
            oneByte(0xC0 + 8 * ECX + EAX);
            jump(NOT_BELOW, miss);
        }

        private void goToEcx() {
            fit(14);
            withNumber(AND, ECX, 65504);
            withNumber(ADD, ECX, CODE_START);
            twoBytes(0xFF, 0xC0 + 8 * 4 + ECX);
        }

        private void between(int to, int from) {
            fit(2);
            twoBytes(TO_M, 0xC0 + 8 * from + to);
        }

        private void withNumber(int n, int register, int number) {
            fit(6);
            twoBytes(0x81, 0xC0 + 8 * n + register);
            fourBytes(number);
        }

        private void moveNumber(int register, int number) {
            fit(5);
            oneByte(0xB8 + register);
            fourBytes(number);
        }

        /** With the memory at eax and an offset in DATA. */
        private void withField(int opcode, int register, int offset) {
            fit(6);
            twoBytes(opcode, 0x80 + 8 * register + EAX);
            fourBytes(DATA_START + offset);
        }

        private void numberToField(int number, int offset) {
            fit(10);
            twoBytes(0xC7, 0x80 + EAX);
            fourBytes(DATA_START + offset);
            fourBytes(number);
        }

        private void single(int opcode) {
            fit(1);
            oneByte(opcode);
        }

        private void jump(int condition, int label) {
            int j = Math.min(jumpCount, JUMP_LIMIT - 1);
            int head = near[j] && condition != ALWAYS ? 2 : 1;
            int size = near[j] ? head + 4 : 2;
            fit(size);
            int end = at + size;
            jumpEnds[j] = end;
            jumpLabels[j] = label;
            jumpCount = j + 1;
            if (!near[j]) {
                twoBytes(condition == ALWAYS ? 0xEB : 0x70 + condition, out.places[label] - end);
                return;
            }
            if (condition == ALWAYS) {
                oneByte(0xE9);
            } else {
                twoBytes(0x0F, 0x80 + condition);
            }
            fourBytes(out.places[label] - end);
        }

        /** The next bytes, so many, stand in one BUNDLE; what is skipped for that has nops already. */
        private void fit(int count) {
            int used = at % BUNDLE;
            if (used + count > BUNDLE) {
                at += BUNDLE - used;
            }
            if (waiting != NONE) {
                out.places[waiting] = at;
                waiting = NONE;
            }
        }

        private void oneByte(int b) {
            if (writing && at < bytes.length) {
                bytes[at] = (byte) b;
            }
            at++;
        }

        private void twoBytes(int one, int two) {
            oneByte(one);
            oneByte(two);
        }

        private void fourBytes(int v) {
            for (int shift = 0; shift < 32; shift += 8) {
                oneByte(v >> shift);
            }
        }
    }

    /** What an instruction is: its group, how many bytes M has, and whether M and r are written. */
    private enum Kind {
        UNKNOWN(OF_FLOW, 4, false, false),
        ALU_M_R(OF_SUM, 4, true, false),
        ALU_R_M(OF_SUM, 4, false, true),
        ALU_M_NUMBER(OF_SUM, 4, true, false),
        INC(OF_SUM, 4, true, false),
        DEC(OF_SUM, 4, true, false),
        TEST_M_R(OF_SUM, 4, false, false),
        TEST_M_NUMBER(OF_SUM, 4, false, false),
        NEG(OF_SUM, 4, true, false),
        BIT_TEST(OF_SUM, 4, false, false),
        MUL(OF_PRODUCT, 4, false, false),
        IMUL(OF_PRODUCT, 4, false, false),
        IMUL_R_M(OF_PRODUCT, 4, false, true),
        DIV(OF_PRODUCT, 4, false, false),
        IDIV(OF_PRODUCT, 4, false, false),
        SHIFT_NUMBER(OF_PRODUCT, 4, true, false),
        SHIFT_ECX(OF_PRODUCT, 4, true, false),
        NOT(OF_MOVE, 4, true, false),
        SIGN_TO_EDX(OF_MOVE, 4, false, false),
        TURN(OF_MOVE, 4, true, false),
        MOV_M_R(OF_MOVE, 4, true, false),
        MOV_R_M(OF_MOVE, 4, false, true),
        MOV_BYTE_M_R(OF_MOVE, 1, true, false),
        MOV_BYTE_R_M(OF_MOVE, 1, false, true),
        MOV_M_NUMBER(OF_MOVE, 4, true, false),
        MOV_BYTE_M_NUMBER(OF_MOVE, 1, true, false),
        XCHG(OF_MOVE, 4, true, true),
        LEA(OF_MOVE, 4, false, true),
        MOVZX(OF_MOVE, 1, false, true),
        MOVSX(OF_MOVE, 1, false, true),
        MOV_IF(OF_MOVE, 4, false, true),
        SET_IF(OF_MOVE, 1, true, false),
        NOP(OF_FLOW, 4, false, false),
        HLT(OF_FLOW, 4, false, false),
        JMP(OF_FLOW, 4, false, false),
        JMP_IF(OF_FLOW, 4, false, false),
        JMP_M(OF_FLOW, 4, false, false),
        PUSH_M(OF_STACK, 4, false, false),
        PUSH_NUMBER(OF_STACK, 4, false, false),
        POP(OF_STACK, 4, true, false),
        CALL_NUMBER(OF_STACK, 4, false, false),
        CALL_M(OF_STACK, 4, false, false),
        RETURN(OF_STACK, 4, false, false);

        final int group;
        final int bytes;
        final boolean writesM;
        final boolean writesR;

        Kind(int group, int bytes, boolean writesM, boolean writesR) {
            this.group = group;
            this.bytes = bytes;
            this.writesM = writesM;
            this.writesR = writesR;
        }
    }

    /** Tells what an instruction's bytes mean. A register that an opcode names counts as M. */
    private static final class Decoder {
        Kind kind = Kind.UNKNOWN;
        /** The n of an arithmetic instruction or shift, the c of a condition. */
        int which;
        int register;
        boolean inMemory;
        /** M's register; in memory NONE if there is none. */
        int base;
        int index;
        int scale;
        int offset;
        int offsetBytes;
        boolean thirdByte;
        int number;
        int length;

        private byte[] code = new byte[0];
        private int size;
        private int cursor;

        void decode(byte[] image, int imageSize, int at) {
            code = image;
            size = Math.min(imageSize, image.length);
            cursor = Math.max(at, 0);
            int start = cursor;
            kind = Kind.UNKNOWN;
            which = 0;
            register = 0;
            inMemory = false;
            base = 0;
            number = 0;
            int opcode = fetchByte();
            if (opcode == 0x0F) {
                decodeLong(fetchByte());
            } else if (opcode < 0x80) {
                decodeLow(opcode);
            } else if (opcode < 0x90) {
                decodeEighties(opcode);
            } else {
                decodeHigh(opcode);
            }
            length = cursor - start;
        }

        private int fetchByte() {
            int b = cursor < size ? code[cursor] & 255 : BEHIND_IMAGE;
            cursor++;
            return b;
        }

        private int fetchSigned() {
            return (byte) fetchByte();
        }

        private int fetchNumber() {
            int v = 0;
            for (int shift = 0; shift < 32; shift += 8) {
                v |= fetchByte() << shift;
            }
            return v;
        }

        private void decodeLow(int opcode) {
            int low = opcode & 7;
            if (opcode < 0x40) {
                if (low == 1 || low == 3) {
                    withM(low == 1 ? Kind.ALU_M_R : Kind.ALU_R_M);
                    which = opcode >> 3;
                }
            } else if (opcode < 0x50) {
                kind = opcode < 0x48 ? Kind.INC : Kind.DEC;
                base = low;
            } else if (opcode < 0x60) {
                kind = opcode < 0x58 ? Kind.PUSH_M : Kind.POP;
                base = low;
            } else if (opcode >= 0x70) {
                alone(Kind.JMP_IF, fetchSigned());
                which = opcode & 15;
            } else if (opcode == 0x68) {
                alone(Kind.PUSH_NUMBER, fetchNumber());
            } else if (opcode == 0x6A) {
                alone(Kind.PUSH_NUMBER, fetchSigned());
            }
        }

        private void decodeEighties(int opcode) {
            switch (opcode) {
                case 0x81:
                    withM(Kind.ALU_M_NUMBER);
                    which = register;
                    number = fetchNumber();
                    break;
                case 0x83:
                    withM(Kind.ALU_M_NUMBER);
                    which = register;
                    number = fetchSigned();
                    break;
                case 0x85:
                    withM(Kind.TEST_M_R);
                    break;
                case 0x87:
                    withM(Kind.XCHG);
                    break;
                case 0x88:
                    withM(Kind.MOV_BYTE_M_R);
                    break;
                case 0x89:
                    withM(Kind.MOV_M_R);
                    break;
                case 0x8A:
                    withM(Kind.MOV_BYTE_R_M);
                    break;
                case 0x8B:
                    withM(Kind.MOV_R_M);
                    break;
                case 0x8D:
                    withM(Kind.LEA);
                    knownIf(inMemory);
                    break;
                default:
                    break;
            }
        }

        private void decodeHigh(int opcode) {
            switch (opcode) {
                case 0x90:
                    kind = Kind.NOP;
                    break;
                case 0x99:
                    kind = Kind.SIGN_TO_EDX;
                    break;
                case 0xC1:
                    withM(Kind.SHIFT_NUMBER);
                    which = register;
                    number = fetchSigned();
                    knownIf(isShift());
                    break;
                case 0xD1:
                    withM(Kind.SHIFT_NUMBER);
                    which = register;
                    number = 1;
                    knownIf(isShift());
                    break;
                case 0xD3:
                    withM(Kind.SHIFT_ECX);
                    which = register;
                    knownIf(isShift());
                    break;
                case 0xC3:
                    kind = Kind.RETURN;
                    break;
                case 0xC6:
                    withM(Kind.MOV_BYTE_M_NUMBER);
                    number = fetchSigned();
                    knownIf(register == 0);
                    break;
                case 0xC7:
                    withM(Kind.MOV_M_NUMBER);
                    number = fetchNumber();
                    knownIf(register == 0);
                    break;
                case 0xF4:
                    kind = Kind.HLT;
                    break;
                case 0xF7:
                    withM(Kind.UNKNOWN);
                    decodeUnary();
                    break;
                case 0xFF:
                    withM(Kind.UNKNOWN);
                    decodeLast();
                    break;
                default:
                    decodeNumbered(opcode);
                    break;
            }
        }

        private void decodeNumbered(int opcode) {
            if (opcode >= 0xB8 && opcode < 0xC0) {
                alone(Kind.MOV_M_NUMBER, fetchNumber());
                base = opcode & 7;
            } else if (opcode == 0xE8) {
                alone(Kind.CALL_NUMBER, fetchNumber());
            } else if (opcode == 0xE9) {
                alone(Kind.JMP, fetchNumber());
            } else if (opcode == 0xEB) {
                alone(Kind.JMP, fetchSigned());
            }
        }

        private boolean isShift() {
            return which < 2 || which == 4 || which == 5 || which == 7;
        }

        private void decodeUnary() {
            switch (register) {
                case 0:
                    alone(Kind.TEST_M_NUMBER, fetchNumber());
                    break;
                case 2:
                    kind = Kind.NOT;
                    break;
                case 3:
                    kind = Kind.NEG;
                    break;
                case 4:
                    kind = Kind.MUL;
                    break;
                case 5:
                    kind = Kind.IMUL;
                    break;
                case 6:
                    kind = Kind.DIV;
                    break;
                case 7:
                    kind = Kind.IDIV;
                    break;
                default:
                    break;
            }
        }

        private void decodeLast() {
            switch (register) {
                case 0:
                    kind = Kind.INC;
                    break;
                case 1:
                    kind = Kind.DEC;
                    break;
                case 2:
                    kind = Kind.CALL_M;
                    break;
                case 4:
                    kind = Kind.JMP_M;
                    break;
                case 6:
                    kind = Kind.PUSH_M;
                    break;
                default:
                    break;
            }
        }

        /** Behind a byte 0F. */
        private void decodeLong(int opcode) {
            int high = opcode & 0xF0;
            which = opcode & 15;
            if (high == 0x40) {
                withM(Kind.MOV_IF);
            } else if (high == 0x80) {
                alone(Kind.JMP_IF, fetchNumber());
            } else if (high == 0x90) {
                withM(Kind.SET_IF);
                knownIf(register == 0);
            } else if (opcode == 0xA3) {
                withM(Kind.BIT_TEST);
                knownIf(!inMemory);
            } else if (opcode == 0xAF) {
                withM(Kind.IMUL_R_M);
            } else if (opcode == 0xB6) {
                withM(Kind.MOVZX);
            } else if (opcode == 0xBE) {
                withM(Kind.MOVSX);
            } else if (opcode >= 0xC8 && opcode < 0xD0) {
                kind = Kind.TURN;
                base = opcode & 7;
            }
        }

        private void alone(Kind what, int told) {
            kind = what;
            number = told;
        }

        private void knownIf(boolean known) {
            if (!known) {
                kind = Kind.UNKNOWN;
            }
        }

        private void withM(Kind what) {
            kind = what;
            int second = fetchByte();
            int mode = second >> 6;
            register = second >> 3 & 7;
            base = second & 7;
            index = NONE;
            scale = 0;
            offset = 0;
            offsetBytes = 0;
            thirdByte = false;
            inMemory = mode != 3;
            if (!inMemory) {
                return;
            }
            thirdByte = base == 4;
            if (thirdByte) {
                int third = fetchByte();
                scale = third >> 6;
                index = (third >> 3 & 7) == 4 ? NONE : third >> 3 & 7;
                base = third & 7;
            }
            boolean alone = mode == 0 && base == 5;
            if (alone) {
                base = NONE;
            }
            if (alone || mode == 2) {
                offsetBytes = 4;
                offset = fetchNumber();
            } else if (mode == 1) {
                offsetBytes = 1;
                offset = fetchSigned();
            }
        }
    }

    /** The PROCESSOR: registers, FLAGS, CODE and DATA. */
    private static final class Processor {
        private static final int CARRY = 1;
        private static final int PARITY = 4;
        private static final int HALF = 16;
        private static final int ZERO = 64;
        private static final int SIGN = 128;
        private static final int OVERFLOW = 2048;
        static final int ALL_FLAGS = CARRY | PARITY | HALF | ZERO | SIGN | OVERFLOW;
        private static final long LOW_HALF = 0xFFFFFFFFL;

        final int[] registers = new int[8];
        int flags;
        int eip = CODE_START;
        int stop;
        final byte[] code = new byte[IMAGE_LIMIT];
        int size;
        private final byte[] data = new byte[FIELD];
        /** The least that ebp has been behind a STEP since it was last told here. */
        int leastEbp;

        private final Decoder now = new Decoder();
        /** Where M is, as an offset in DATA. */
        private int spot;
        /** The eip that comes next. */
        private int next;

        void takeImage(byte[] bytes, int length) {
            size = Math.max(0, Math.min(length, Math.min(bytes.length, code.length)));
            System.arraycopy(bytes, 0, code, 0, size);
            goTo(CODE_START);
        }

        void goTo(int place) {
            eip = place;
            stop = 0;
        }

        void wipe() {
            Arrays.fill(data, (byte) 0);
            Arrays.fill(registers, 0);
            flags = 0;
        }

        void writeBytes(byte[] bytes, int length) {
            System.arraycopy(bytes, 0, data, 0, Math.max(0, Math.min(length, bytes.length)));
        }

        int readWord(int at) {
            if (at < 0 || at > FIELD - 4) {
                return 0;
            }
            return data[at] & 255 | (data[at + 1] & 255) << 8 | (data[at + 2] & 255) << 16
                | data[at + 3] << 24;
        }

        void writeWord(int at, int v) {
            if (at < 0 || at > FIELD - 4) {
                return;
            }
            data[at] = (byte) v;
            data[at + 1] = (byte) (v >> 8);
            data[at + 2] = (byte) (v >> 16);
            data[at + 3] = (byte) (v >> 24);
        }

        /** How many STEPS were made. */
        int makeSteps(int most) {
            int made = 0;
            for (int k = 0; k < most && stop == 0; k++) {
                stop = tryStep();
                if (stop == 0) {
                    made++;
                    leastEbp = Math.min(leastEbp, registers[EBP]);
                }
            }
            return made;
        }

        /** The STOP, 0 if there was none. */
        private int tryStep() {
            int at = eip - CODE_START;
            if (at < 0 || at >= FIELD) {
                return STOP_FETCH;
            }
            now.decode(code, size, at);
            if (now.kind == Kind.UNKNOWN) {
                return STOP_UNKNOWN;
            }
            if (now.kind == Kind.HLT) {
                return STOP_HLT;
            }
            spot = now.inMemory ? address() - DATA_START : 0;
            if (now.inMemory && now.kind != Kind.LEA && isOutside(spot, now.kind.bytes)) {
                return STOP_MEMORY;
            }
            next = eip + now.length;
            int trouble = perform();
            if (trouble == 0) {
                eip = next;
            }
            return trouble;
        }

        private static boolean isOutside(int at, int bytes) {
            return at < 0 || at > FIELD - bytes;
        }

        private int address() {
            int sum = now.offset;
            if (now.base != NONE) {
                sum += registers[now.base];
            }
            if (now.index != NONE) {
                sum += registers[now.index] << now.scale;
            }
            return sum;
        }

        private int readM() {
            return now.inMemory ? readWord(spot) : registers[now.base];
        }

        private void writeM(int v) {
            if (now.inMemory) {
                writeWord(spot, v);
            } else {
                registers[now.base] = v;
            }
        }

        private int readByteM() {
            return now.inMemory ? data[spot] & 255 : readByteRegister(now.base);
        }

        private void writeByteM(int v) {
            if (now.inMemory) {
                data[spot] = (byte) v;
            } else {
                writeByteRegister(now.base, v);
            }
        }

        /** The byte registers 4 .. 7 are the second bytes of the registers 0 .. 3. */
        private int readByteRegister(int r) {
            return registers[r & 3] >> 2 * (r & 4) & 255;
        }

        private void writeByteRegister(int r, int v) {
            int shift = 2 * (r & 4);
            registers[r & 3] = registers[r & 3] & ~(255 << shift) | (v & 255) << shift;
        }

        private int perform() {
            switch (now.kind.group) {
                case OF_SUM:
                    addOrTest();
                    return 0;
                case OF_PRODUCT:
                    return multiplyOrShift();
                case OF_MOVE:
                    move();
                    return 0;
                case OF_STACK:
                    return useStack();
                default:
                    jump();
                    return 0;
            }
        }

        private void jump() {
            if (now.kind == Kind.JMP_M) {
                next = readM();
            } else if (now.kind == Kind.JMP || now.kind == Kind.JMP_IF && holds(now.which)) {
                next += now.number;
            }
        }

        private void move() {
            int r = now.register;
            switch (now.kind) {
                case MOV_M_R:
                    writeM(registers[r]);
                    break;
                case MOV_R_M:
                    registers[r] = readM();
                    break;
                case MOV_BYTE_M_R:
                    writeByteM(readByteRegister(r));
                    break;
                case MOV_BYTE_R_M:
                    writeByteRegister(r, readByteM());
                    break;
                case MOV_M_NUMBER:
                    writeM(now.number);
                    break;
                case MOV_BYTE_M_NUMBER:
                    writeByteM(now.number);
                    break;
                case XCHG:
                    int old = readM();
                    writeM(registers[r]);
                    registers[r] = old;
                    break;
                case LEA:
                    registers[r] = address();
                    break;
                case MOVZX:
                    registers[r] = readByteM();
                    break;
                case MOVSX:
                    registers[r] = (byte) readByteM();
                    break;
                case MOV_IF:
                    registers[r] = holds(now.which) ? readM() : registers[r];
                    break;
                case SET_IF:
                    writeByteM(holds(now.which) ? 1 : 0);
                    break;
                case NOT:
                    writeM(~readM());
                    break;
                case SIGN_TO_EDX:
                    registers[EDX] = registers[EAX] >> 31;
                    break;
                case TURN:
                    writeM(turned(readM()));
                    break;
                default:
                    break;
            }
        }

        private static int turned(int v) {
            return v << 24 | (v & 0xFF00) << 8 | v >> 8 & 0xFF00 | v >>> 24;
        }

        private boolean takesFromStack() {
            return now.kind == Kind.POP || now.kind == Kind.RETURN;
        }

        private int useStack() {
            int top = registers[ESP] - (takesFromStack() ? 0 : 4);
            if (isOutside(top - DATA_START, 4)) {
                return STOP_MEMORY;
            }
            int behind = next;
            switch (now.kind) {
                case POP:
                    int taken = takeWord();
                    registers[now.base] = taken;
                    break;
                case RETURN:
                    next = takeWord();
                    break;
                case CALL_NUMBER:
                    next += now.number;
                    addWord(behind);
                    break;
                case CALL_M:
                    next = readM();
                    addWord(behind);
                    break;
                case PUSH_M:
                    addWord(readM());
                    break;
                default:
                    addWord(now.number);
                    break;
            }
            return 0;
        }

        private void addWord(int v) {
            registers[ESP] -= 4;
            writeWord(registers[ESP] - DATA_START, v);
        }

        private int takeWord() {
            int v = readWord(registers[ESP] - DATA_START);
            registers[ESP] += 4;
            return v;
        }

        private boolean holds(int c) {
            boolean signUnlikeOverflow = isUp(SIGN) != isUp(OVERFLOW);
            boolean is;
            switch (c >> 1) {
                case 0:
                    is = isUp(OVERFLOW);
                    break;
                case 1:
                    is = isUp(CARRY);
                    break;
                case 2:
                    is = isUp(ZERO);
                    break;
                case 3:
                    is = isUp(CARRY | ZERO);
                    break;
                case 4:
                    is = isUp(SIGN);
                    break;
                case 5:
                    is = isUp(PARITY);
                    break;
                case 6:
                    is = signUnlikeOverflow;
                    break;
                default:
                    is = isUp(ZERO) || signUnlikeOverflow;
                    break;
            }
            return is == ((c & 1) == 0);
        }

        private boolean isUp(int someFlags) {
            return (flags & someFlags) != 0;
        }

        private void addOrTest() {
            int r = now.register;
            int carry = flags & CARRY;
            switch (now.kind) {
                case ALU_M_R:
                    writeM(arithmetic(readM(), registers[r]));
                    break;
                case ALU_M_NUMBER:
                    writeM(arithmetic(readM(), now.number));
                    break;
                case ALU_R_M:
                    registers[r] = arithmetic(registers[r], readM());
                    break;
                case INC:
                    writeM(add(readM(), 1, 0));
                    flags = flags & ~CARRY | carry;
                    break;
                case DEC:
                    writeM(subtract(readM(), 1, 0));
                    flags = flags & ~CARRY | carry;
                    break;
                case TEST_M_R:
                    logic(readM() & registers[r]);
                    break;
                case TEST_M_NUMBER:
                    logic(readM() & now.number);
                    break;
                case NEG:
                    writeM(subtract(0, readM(), 0));
                    break;
                case BIT_TEST:
                    flags = flags & ~CARRY | readM() >> (registers[r] & 31) & 1;
                    break;
                default:
                    break;
            }
        }

        /** What comes to stand in the first of both: for cmp it is what stood there. */
        private int arithmetic(int a, int b) {
            int carry = flags & CARRY;
            switch (now.which) {
                case 0:
                    return add(a, b, 0);
                case 1:
                    return logic(a | b);
                case 2:
                    return add(a, b, carry);
                case 3:
                    return subtract(a, b, carry);
                case 4:
                    return logic(a & b);
                case 5:
                    return subtract(a, b, 0);
                case 6:
                    return logic(a ^ b);
                default:
                    subtract(a, b, 0);
                    return a;
            }
        }

        private int add(int a, int b, int carry) {
            int sum = a + b + carry;
            int out = (a & b | (a | b) & ~sum) >>> 31;
            int overflow = ((a ^ sum) & (b ^ sum)) >>> 31;
            flags = ofResult(sum) | out | (a ^ b ^ sum) & HALF | overflow * OVERFLOW;
            return sum;
        }

        private int subtract(int a, int b, int borrow) {
            int rest = a - b - borrow;
            int out = (~a & b | (~a | b) & rest) >>> 31;
            int overflow = ((a ^ b) & (a ^ rest)) >>> 31;
            flags = ofResult(rest) | out | (a ^ b ^ rest) & HALF | overflow * OVERFLOW;
            return rest;
        }

        private int logic(int result) {
            flags = ofResult(result);
            return result;
        }

        private static int ofResult(int result) {
            int even = (Integer.bitCount(result & 255) & 1) == 0 ? PARITY : 0;
            return even | (result == 0 ? ZERO : 0) | (result < 0 ? SIGN : 0);
        }

        private int multiplyOrShift() {
            switch (now.kind) {
                case DIV:
                    return divide();
                case IDIV:
                    return divideSigned();
                case SHIFT_NUMBER:
                    shift(now.number & 31);
                    return 0;
                case SHIFT_ECX:
                    shift(registers[ECX] & 31);
                    return 0;
                default:
                    multiply();
                    return 0;
            }
        }

        private void shift(int n) {
            if (n > 0) {
                writeM(lastShift(firstShifts(readM(), n - 1)));
            }
        }

        private int firstShifts(int v, int n) {
            switch (now.which) {
                case 0:
                    return v << n | v >>> 32 - n;
                case 1:
                    return v >>> n | v << 32 - n;
                case 4:
                    return v << n;
                case 5:
                    return v >>> n;
                default:
                    return v >> n;
            }
        }

        private int lastShift(int v) {
            int result;
            switch (now.which) {
                case 0:
                    result = v << 1 | v >>> 31;
                    carryAndOverflow(result & 1, result & 1 ^ result >>> 31);
                    return result;
                case 1:
                    result = v >>> 1 | v << 31;
                    carryAndOverflow(result >>> 31, result >>> 31 ^ result >>> 30 & 1);
                    return result;
                case 4:
                    result = v << 1;
                    flags = ofResult(result);
                    carryAndOverflow(v >>> 31, v >>> 31 ^ result >>> 31);
                    return result;
                case 5:
                    result = v >>> 1;
                    flags = ofResult(result);
                    carryAndOverflow(v & 1, v >>> 31);
                    return result;
                default:
                    result = v >> 1;
                    flags = ofResult(result);
                    carryAndOverflow(v & 1, 0);
                    return result;
            }
        }

        private void carryAndOverflow(int carry, int overflow) {
            flags = flags & ~(CARRY | OVERFLOW) | carry | overflow * OVERFLOW;
        }

        private void multiply() {
            boolean wide = now.kind != Kind.IMUL_R_M;
            long one = registers[wide ? EAX : now.register];
            long other = readM();
            boolean beyond;
            long product;
            if (now.kind == Kind.MUL) {
                product = (one & LOW_HALF) * (other & LOW_HALF);
                beyond = product >>> 32 != 0;
            } else {
                product = one * other;
                beyond = product != (int) product;
            }
            if (wide) {
                registers[EAX] = (int) product;
                registers[EDX] = (int) (product >> 32);
            } else {
                registers[now.register] = (int) product;
            }
            carryAndOverflow(beyond ? 1 : 0, beyond ? 1 : 0);
        }

        private int divide() {
            long divisor = readM() & LOW_HALF;
            long rest = registers[EDX] & LOW_HALF;
            if (rest >= divisor) {
                return STOP_DIVIDE;
            }
            int quotient = 0;
            for (int bit = 31; bit >= 0; bit--) {
                rest = rest << 1 | registers[EAX] >>> bit & 1;
                quotient <<= 1;
                if (rest >= divisor) {
                    rest -= divisor;
                    quotient |= 1;
                }
            }
            registers[EAX] = quotient;
            registers[EDX] = (int) rest;
            return 0;
        }

        private int divideSigned() {
            long divisor = readM();
            long whole = (long) registers[EDX] << 32 | registers[EAX] & LOW_HALF;
            if (divisor == 0) {
                return STOP_DIVIDE;
            }
            long quotient = whole / divisor;
            if (quotient != (int) quotient) {
                return STOP_DIVIDE;
            }
            registers[EAX] = (int) quotient;
            registers[EDX] = (int) (whole % divisor);
            return 0;
        }
    }

    /** The CHECK. */
    private static final class Checker {
        private static final int UNREADABLE = 1;
        private static final int IN_TWO_BUNDLES = 2;
        private static final int STACK_OR_FAR = 3;
        private static final int NOT_CONFINED = 4;
        private static final int WILD_JUMP = 5;
        private static final int BAD_GOAL = 6;
        private static final int MASK_LIMIT = 65535;
        private static final int GO_MASK_LIMIT = 65504;

        int reason;
        int spot;

        private final Decoder now = new Decoder();
        private int size;
        private int at;
        /** Where the INSTRUCTIONS end. */
        private int readable;
        /** Bits of places of the IMAGE. */
        private final int[] starts = new int[IMAGE_LIMIT / 32];
        private final int[] goals = new int[IMAGE_LIMIT / 32];
        /** Of each register, NONE without one. */
        private final int[] masks = new int[8];
        /** How many of the two instructions that a jmp M wants ahead of it there have been. */
        private int readied;
        private int readiedRegister;
        private int readiedBundle;

        void judge(byte[] code, int imageSize) {
            size = Math.max(0, Math.min(imageSize, Math.min(code.length, IMAGE_LIMIT)));
            noteInstructions(code);
            reason = 0;
            spot = NONE;
            at = 0;
            readied = 0;
            Arrays.fill(masks, NONE);
            int bundle = 0;
            for (int k = 0; k < readable && at < readable; k++) {
                now.decode(code, size, at);
                if (at / BUNDLE != bundle || isIn(goals, at)) {
                    Arrays.fill(masks, NONE);
                }
                bundle = at / BUNDLE;
                reason = refusal();
                if (reason != 0) {
                    spot = at;
                    return;
                }
                noteReadied();
                noteMasks();
                at += now.length;
            }
            if (readable < size) {
                reason = UNREADABLE;
                spot = readable;
            }
        }

        private void noteInstructions(byte[] code) {
            Arrays.fill(starts, 0);
            Arrays.fill(goals, 0);
            at = 0;
            boolean fine = true;
            for (int k = 0; k < size && fine && at < size; k++) {
                now.decode(code, size, at);
                fine = now.kind != Kind.UNKNOWN && at + now.length <= size;
                if (fine) {
                    include(starts, at);
                    if (goesToNumber()) {
                        include(goals, goal());
                    }
                    at += now.length;
                }
            }
            readable = at;
        }

        private boolean goesToNumber() {
            return now.kind == Kind.JMP || now.kind == Kind.JMP_IF;
        }

        /** As a place of the IMAGE; modulo 2 to the 32 it is in CODE just if it is 0 .. 65535. */
        private int goal() {
            return at + now.length + now.number;
        }

        private void include(int[] bits, int place) {
            if (place >= 0 && place < size) {
                bits[place >> 5] |= 1 << (place & 31);
            }
        }

        private boolean isIn(int[] bits, int place) {
            return place >= 0 && place < size && (bits[place >> 5] >> (place & 31) & 1) != 0;
        }

        private int refusal() {
            if (at / BUNDLE != (at + now.length - 1) / BUNDLE) {
                return IN_TWO_BUNDLES;
            }
            switch (now.kind) {
                case PUSH_M:
                case PUSH_NUMBER:
                case POP:
                case CALL_NUMBER:
                case CALL_M:
                case RETURN:
                    return STACK_OR_FAR;
                case JMP_M:
                    if (now.inMemory) {
                        return STACK_OR_FAR;
                    }
                    return isReadied() ? 0 : WILD_JUMP;
                case JMP:
                case JMP_IF:
                    return isFineGoal() ? 0 : BAD_GOAL;
                case LEA:
                    return 0;
                default:
                    return !now.inMemory || isConfined() ? 0 : NOT_CONFINED;
            }
        }

        private boolean isConfined() {
            int from = now.offset;
            int last = DATA_START + FIELD - now.kind.bytes;
            if (now.thirdByte || now.offsetBytes == 0 || from < DATA_START || from > last) {
                return false;
            }
            if (now.base == NONE) {
                return true;
            }
            return masks[now.base] != NONE && from + masks[now.base] <= last;
        }

        private boolean isReadied() {
            return readied == 2 && readiedRegister == now.base && readiedBundle == at / BUNDLE
                && !isIn(goals, at);
        }

        private boolean isFineGoal() {
            int goal = goal();
            return isIn(starts, goal) || goal >= size && goal < FIELD;
        }

        private void noteReadied() {
            boolean isNumbered = now.kind == Kind.ALU_M_NUMBER && !now.inMemory && now.length == 6;
            boolean follows = readied == 1 && readiedRegister == now.base
                && readiedBundle == at / BUNDLE && !isIn(goals, at);
            if (isNumbered && now.which == AND && now.number >= 0 && now.number <= GO_MASK_LIMIT
                && now.number % BUNDLE == 0) {
                readied = 1;
                readiedRegister = now.base;
                readiedBundle = at / BUNDLE;
            } else if (isNumbered && now.which == ADD && now.number == CODE_START && follows) {
                readied = 2;
            } else {
                readied = 0;
            }
        }

        private void noteMasks() {
            boolean compares = now.which == CMP && (now.kind == Kind.ALU_M_R
                || now.kind == Kind.ALU_R_M || now.kind == Kind.ALU_M_NUMBER);
            boolean ofBytes = now.kind.bytes == 1;
            if (now.kind.writesM && !now.inMemory && !compares) {
                masks[ofBytes ? now.base & 3 : now.base] = NONE;
            }
            if (now.kind.writesR && !compares) {
                masks[now.kind == Kind.MOV_BYTE_R_M ? now.register & 3 : now.register] = NONE;
            }
            switch (now.kind) {
                case MUL:
                case IMUL:
                case DIV:
                case IDIV:
                    masks[EAX] = NONE;
                    masks[EDX] = NONE;
                    break;
                case SIGN_TO_EDX:
                    masks[EDX] = NONE;
                    break;
                case ALU_M_NUMBER:
                    boolean narrows = now.which == AND && !now.inMemory;
                    if (narrows && now.number >= 0 && now.number <= MASK_LIMIT) {
                        masks[now.base] = now.number;
                    }
                    break;
                default:
                    break;
            }
        }
    }
}
