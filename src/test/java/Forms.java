/** The document's list of the processor's instructions, as a table of their sizes. An opcode behind 0F counts from 256 on. */
final class Forms {
    private Forms() {
    }

    /** What follows the opcode (from 256 on: the one behind 0F): M, then bytes of a number; -1 if it is none. */
    private static int numberBytes(int opcode, int n, boolean inMemory) {
        if (opcode >= 256) {
            int low = opcode - 256;
            boolean known = low >= 0x40 && low < 0x50 || low >= 0x90 && low < 0xA0 && n == 0 || low == 0xA3 && !inMemory
                || low == 0xAF || low == 0xB6 || low == 0xBE;
            return known ? 0 : -1;
        }
        if (opcode < 0x40) {
            return opcode % 8 == 1 || opcode % 8 == 3 ? 0 : -1;
        }
        boolean shift = n == 0 || n == 1 || n == 4 || n == 5 || n == 7;
        return switch (opcode) {
            case 0x81 -> 4;
            case 0x83 -> 1;
            case 0x85, 0x87, 0x88, 0x89, 0x8A, 0x8B -> 0;
            case 0x8D -> inMemory ? 0 : -1;
            case 0xC1 -> shift ? 1 : -1;
            case 0xD1, 0xD3 -> shift ? 0 : -1;
            case 0xC6 -> n == 0 ? 1 : -1;
            case 0xC7 -> n == 0 ? 4 : -1;
            case 0xF7 -> n == 0 ? 4 : n == 1 ? -1 : 0;
            case 0xFF -> n == 3 || n == 5 || n == 7 ? -1 : 0;
            default -> -1;
        };
    }

    /** The size of an instruction without M, 0 if it has M or is none. */
    static int plainSize(int opcode) {
        if (opcode >= 256) {
            int low = opcode - 256;
            return low >= 0x80 && low < 0x90 ? 6 : low >= 0xC8 && low < 0xD0 ? 2 : 0;
        }
        if (opcode >= 0x40 && opcode < 0x60) {
            return 1;
        }
        if (opcode >= 0x70 && opcode < 0x80) {
            return 2;
        }
        if (opcode >= 0xB8 && opcode < 0xC0) {
            return 5;
        }
        return switch (opcode) {
            case 0x68, 0xE8, 0xE9 -> 5;
            case 0x6A, 0xEB -> 2;
            case 0x90, 0x99, 0xC3, 0xF4 -> 1;
            default -> 0;
        };
    }

    /** -1 if it is UNKNOWN. */
    static int size(int opcode, int second, int third) {
        int plain = plainSize(opcode);
        if (plain > 0) {
            return plain;
        }
        int mode = second / 64;
        int n = second / 8 % 8;
        int b = second % 8;
        int number = numberBytes(opcode, n, mode != 3);
        if (number < 0) {
            return -1;
        }
        int size = (opcode >= 256 ? 3 : 2) + number;
        if (mode == 3) {
            return size;
        }
        int base = b;
        if (b == 4) {
            size++;
            base = third % 8;
        }
        return size + (mode == 1 ? 1 : mode == 2 || base == 5 ? 4 : 0);
    }
}
