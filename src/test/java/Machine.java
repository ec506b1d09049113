import java.util.ArrayList;
import java.util.List;

/** The small machine of Part IV, run on the PROGRAM that a house tells: no processor is in it. */
final class Machine {
    private final int[][] program;
    private final int[][] sets;
    int peak;
    final List<int[]> events = new ArrayList<>();

    Machine(MatchHouse house) {
        program = new int[house.count(1)][3];
        for (int i = 0; i < program.length; i++) {
            for (int what = 0; what < 3; what++) {
                program[i][what] = house.program(i, what);
            }
        }
        sets = new int[house.count(2)][8];
        for (int k = 0; k < sets.length; k++) {
            for (int w = 0; w < 8; w++) {
                sets[k][w] = house.set(k, w);
            }
        }
    }

    /** As match(): the bytes taken, -2 NO, -3 OVER, -4 if it takes too long. */
    int run(byte[] subject, int start, int stack) {
        List<int[]> entries = new ArrayList<>();
        events.clear();
        peak = 0;
        int place = start;
        int at = 0;
        for (int step = 0; step < 20000; step++) {
            int[] now = program[at];
            boolean fails = false;
            boolean grows = false;
            switch (now[0]) {
                case 0, 1, 2 -> {
                    fails = !suits(now, subject, place);
                    place++;
                    at++;
                }
                case 3 -> {
                    while (suits(now, subject, place)) {
                        place++;
                    }
                    at++;
                }
                case 4, 5, 6 -> at = suits(now, subject, place) ? at + 1 : now[2];
                case 7 -> at = now[2];
                case 8 -> {
                    grows = true;
                    entries.add(new int[] {now[2], place, events.size()});
                    at++;
                }
                case 9 -> {
                    entries.remove(entries.size() - 1);
                    at = now[2];
                }
                case 10 -> {
                    entries.get(entries.size() - 1)[1] = place;
                    entries.get(entries.size() - 1)[2] = events.size();
                    at = now[2];
                }
                case 11 -> {
                    int[] entry = entries.remove(entries.size() - 1);
                    place = entry[1];
                    cutEvents(entry[2]);
                    at = now[2];
                }
                case 12 -> {
                    entries.remove(entries.size() - 1);
                    fails = true;
                }
                case 13 -> fails = true;
                case 14 -> {
                    grows = true;
                    entries.add(new int[] {at + 1, -1, 0});
                    at = now[2];
                }
                case 15 -> at = entries.remove(entries.size() - 1)[0];
                case 16, 17 -> {
                    grows = true;
                    events.add(new int[] {now[1], now[0] - 16, place});
                    at++;
                }
                default -> {
                    return place - start;
                }
            }
            if (grows && entries.size() + events.size() > stack) {
                events.clear();
                return -3;
            }
            peak = Math.max(peak, entries.size() + events.size());
            if (fails) {
                while (!entries.isEmpty() && entries.get(entries.size() - 1)[1] < 0) {
                    entries.remove(entries.size() - 1);
                }
                if (entries.isEmpty()) {
                    events.clear();
                    return -2;
                }
                int[] entry = entries.remove(entries.size() - 1);
                at = entry[0];
                place = entry[1];
                cutEvents(entry[2]);
            }
        }
        events.clear();
        return -4;
    }

    private void cutEvents(int count) {
        while (events.size() > count) {
            events.remove(events.size() - 1);
        }
    }

    private boolean suits(int[] now, byte[] subject, int place) {
        if (place >= subject.length) {
            return false;
        }
        int b = subject[place] & 255;
        return switch (now[0]) {
            case 0, 4 -> b == now[1];
            case 2, 6 -> true;
            default -> (sets[now[1]][b / 32] >> b % 32 & 1) != 0;
        };
    }
}
