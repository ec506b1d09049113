/** A second reading of Part VI, apart from MatchHouse: the CHECK of an IMAGE, reason and place. */
final class Inspector {
    private final byte[] image;
    private final boolean[] begins;
    private final boolean[] goals;
    int reason;
    int place = -1;

    /** What stands at a place. */
    private final class Found {
        final int at;
        final int opcode;
        final int second;
        final int size;
        final int mode;
        final int r;
        final int b;

        Found(int at) {
            this.at = at;
            boolean isLong = byteAt(at) == 0x0F;
            opcode = isLong ? 256 + byteAt(at + 1) : byteAt(at);
            int next = isLong ? at + 2 : at + 1;
            second = byteAt(next);
            size = Forms.size(opcode, second, byteAt(next + 1));
            boolean plain = Forms.plainSize(opcode) > 0;
            mode = plain ? -1 : second / 64;
            r = plain ? -1 : second / 8 % 8;
            b = plain ? -1 : second % 8;
        }

        boolean isUnknown() {
            return size < 0;
        }

        int end() {
            return at + size;
        }

        boolean inMemory() {
            return mode >= 0 && mode < 3;
        }

        boolean isGroup(int group, int n) {
            return opcode == group && r == n;
        }

        boolean isStack() {
            return opcode >= 0x50 && opcode < 0x60 || opcode == 0x68 || opcode == 0x6A || isGroup(0xFF, 6) || opcode == 0xE8 || isGroup(0xFF, 2)
                || opcode == 0xC3;
        }

        boolean isJump() {
            return opcode == 0xEB || opcode == 0xE9 || opcode >= 0x70 && opcode < 0x80 || opcode >= 256 + 0x80 && opcode < 256 + 0x90;
        }

        long goal() {
            boolean isShort = opcode == 0xEB || opcode < 0x80;
            int way = isShort ? (byte) byteAt(at + 1) : numberAt(end() - 4);
            return 65536 + end() + way & 0xFFFFFFFFL;
        }

        int bytes() {
            return switch (opcode) {
                case 0x88, 0x8A, 0xC6, 256 + 0xB6, 256 + 0xBE -> 1;
                default -> opcode >= 256 + 0x90 && opcode < 256 + 0xA0 ? 1 : 4;
            };
        }

        boolean isConfined(long[] masks) {
            boolean alone = mode == 0 && b == 5;
            if (b == 4 || !alone && mode != 2) {
                return false;
            }
            long v = numberAt(at + (opcode >= 256 ? 3 : 2));
            if (alone) {
                return 131072 <= v && v + bytes() <= 196608;
            }
            return masks[b] >= 0 && 131072 <= v && masks[b] + v + bytes() <= 196608;
        }

        /** An 81 or (where it may be) 83 of a register with a number. */
        boolean isSum(int n, boolean orShort) {
            return mode == 3 && r == n && (opcode == 0x81 || orShort && opcode == 0x83);
        }

        long number() {
            return opcode == 0x83 ? (byte) byteAt(end() - 1) : numberAt(end() - 4);
        }

        void noteWrites(long[] masks) {
            int m = mode == 3 ? b : -1;
            if (opcode < 0x40) {
                int n = opcode / 8;
                forget(masks, n == 7 ? -1 : opcode % 8 == 1 ? m : r);
            } else if (opcode < 0x50) {
                forget(masks, opcode % 8);
            } else if (opcode >= 0xB8 && opcode < 0xC0) {
                forget(masks, opcode % 8);
            } else if (opcode >= 256 + 0xC8 && opcode < 256 + 0xD0) {
                forget(masks, opcode % 8);
            } else if (opcode >= 256 + 0x40 && opcode < 256 + 0x50) {
                forget(masks, r);
            } else if (opcode >= 256 + 0x90 && opcode < 256 + 0xA0) {
                forget(masks, m < 0 ? -1 : m % 4);
            } else {
                switch (opcode) {
                    case 0x81, 0x83 -> forget(masks, r == 7 ? -1 : m);
                    case 0xFF -> forget(masks, r < 2 ? m : -1);
                    case 0xF7 -> {
                        forget(masks, r == 2 || r == 3 ? m : r >= 4 ? 0 : -1);
                        forget(masks, r >= 4 ? 2 : -1);
                    }
                    case 256 + 0xAF, 0x8B, 0x8D, 256 + 0xB6, 256 + 0xBE -> forget(masks, r);
                    case 0xC1, 0xD1, 0xD3, 0x89, 0xC7 -> forget(masks, m);
                    case 0x99 -> forget(masks, 2);
                    case 0x88, 0xC6 -> forget(masks, m < 0 ? -1 : m % 4);
                    case 0x8A -> forget(masks, r % 4);
                    case 0x87 -> {
                        forget(masks, m);
                        forget(masks, r);
                    }
                    default -> { }
                }
            }
        }
    }

    Inspector(byte[] image) {
        this.image = image;
        begins = new boolean[image.length + 1];
        goals = new boolean[65536];
        int at = 0;
        while (at < image.length) {
            Found found = new Found(at);
            if (found.isUnknown() || found.end() > image.length) {
                break;
            }
            begins[at] = true;
            if (found.isJump() && found.goal() >= 65536 && found.goal() < 131072) {
                goals[(int) found.goal() - 65536] = true;
            }
            at = found.end();
        }
        inspect();
    }

    private int byteAt(int at) {
        return at < image.length ? image[at] & 255 : 244;
    }

    private int numberAt(int at) {
        return byteAt(at) | byteAt(at + 1) << 8 | byteAt(at + 2) << 16 | byteAt(at + 3) << 24;
    }

    private static void forget(long[] masks, int register) {
        if (register >= 0) {
            masks[register] = -1;
        }
    }

    private void inspect() {
        long[] masks = new long[8];
        java.util.Arrays.fill(masks, -1);
        Found one = null;
        Found two = null;
        int at = 0;
        while (at < image.length) {
            Found now = new Found(at);
            if (at % 32 == 0 || goals[at]) {
                java.util.Arrays.fill(masks, -1);
            }
            reason = reason(now, masks, one, two);
            if (reason != 0) {
                place = at;
                return;
            }
            now.noteWrites(masks);
            if (now.isSum(4, true) && now.number() >= 0 && now.number() <= 65535) {
                masks[now.b] = now.number();
            }
            one = two;
            two = now;
            at = now.end();
        }
    }

    private int reason(Found now, long[] masks, Found one, Found two) {
        if (now.isUnknown() || now.end() > image.length) {
            return 1;
        }
        if (now.at / 32 != (now.end() - 1) / 32) {
            return 2;
        }
        boolean jumpM = now.isGroup(0xFF, 4);
        if (now.isStack() || jumpM && now.inMemory()) {
            return 3;
        }
        if (now.opcode != 0x8D && now.inMemory() && !now.isConfined(masks)) {
            return 4;
        }
        if (jumpM && !isGo(one, two, now)) {
            return 5;
        }
        if (now.isJump()) {
            long goal = now.goal() - 65536;
            boolean fine = goal >= 0 && goal < 65536 && (goal >= image.length || begins[(int) goal]);
            return fine ? 0 : 6;
        }
        return 0;
    }

    private boolean isGo(Found one, Found two, Found now) {
        if (one == null || two == null || one.at / 32 != now.at / 32 || goals[two.at] || goals[now.at]) {
            return false;
        }
        boolean masked = one.isSum(4, false) && one.b == now.b && one.number() >= 0 && one.number() <= 65504 && one.number() % 32 == 0;
        return masked && two.isSum(0, false) && two.b == now.b && two.number() == 65536;
    }
}
