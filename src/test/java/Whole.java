/** Much of what can be asked of a house, in one row: if a call changed something, it is another row. */
final class Whole {
    /** How many calls a row takes: two of them, and what is between, stay below 512. */
    static final int CALLS = 136;
    private static final int[] IMAGE = {0, 1, 31, 32, 63, 96, 99, 130, 200, 261, 500, 900};
    private static final int[] DATA = {0, 4, 4096, 4108, 4128, 8192, 12288, 12292, 12300, 28672, 28676, 28680, 28684, 40000, 65532};

    private Whole() {
    }

    static int[] of(MatchHouse house) {
        int[] row = new int[CALLS];
        int n = 0;
        for (int what = 0; what < 8; what++) {
            row[n++] = house.count(what);
        }
        for (int what = 0; what < 2; what++) {
            row[n++] = house.fault(what);
            row[n++] = house.check(what);
        }
        for (int what = 0; what < 12; what++) {
            row[n++] = house.rule(0, what);
            row[n++] = house.rule(1, what);
        }
        for (int i = 0; i < 24; i++) {
            row[n++] = house.program(i / 4, i % 4);
        }
        for (int i = 0; i < 24; i++) {
            row[n++] = house.set(i / 8, i % 8);
        }
        for (int i : IMAGE) {
            row[n++] = house.image(i);
        }
        row[n++] = house.peak();
        for (int i = 0; i < 12; i++) {
            row[n++] = house.event(i / 3, i % 3);
        }
        for (int what = 0; what < 11; what++) {
            row[n++] = house.get(what);
        }
        for (int at : DATA) {
            row[n++] = house.load(at);
        }
        return java.util.Arrays.copyOf(row, n);
    }

    static String text(MatchHouse house) {
        return java.util.Arrays.toString(of(house));
    }
}
