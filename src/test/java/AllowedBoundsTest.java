import java.util.ArrayList;
import java.util.List;

/**
 * Terms: every number up to its bounds is taken. Every call of the face, with each of its numbers
 * at its least, at its greatest and next to them, against the terms worked out the slow way.
 */
public final class AllowedBoundsTest {
    private static final Check CHECK = new Check();

    public static void main(String[] args) {
        inRoom(Setting.of(10, 8, 3).source(3, 4, 2).listener(7, 1, 2).keeps(950, 700, 850, 1000, 400, 600));
        inRoom(Setting.of(1, 1, 1).source(1, 0, 1).listener(0, 1, 1));
        inRoom(Setting.of(1000, 1000, 1000).source(1000, 0, 1).listener(0, 999, 1000));
        inRoom(Setting.of(1, 1000, 500).source(0, 500, 250).listener(1, 1000, 0).keeps(1000, 0, 999, 1, 500, 900));
        CHECK.end();
    }

    private static void inRoom(Setting setting) {
        PlainRoom plain = new PlainRoom(setting);
        for (FaceCall call : FaceCall.values()) {
            for (long[] n : allowed(call, setting)) {
                RoomEchoes room = setting.make();
                CHECK.answers(call.told(n), () -> call.answer(room, n), call.due(plain, n));
            }
        }
    }

    private static List<long[]> allowed(FaceCall call, Setting setting) {
        long[][] bounds = call.bounds(setting);
        List<long[]> all = List.of(new long[0]);
        for (long[] bound : bounds) {
            List<long[]> longer = new ArrayList<>();
            for (long[] n : all) {
                for (long inside : inside(bound[0], bound[1])) {
                    long[] more = java.util.Arrays.copyOf(n, n.length + 1);
                    more[n.length] = inside;
                    longer.add(more);
                }
            }
            all = longer;
        }
        return all.stream().filter(n -> call.takes(setting, n)).toList();
    }

    private static List<Long> inside(long least, long greatest) {
        List<Long> inside = new ArrayList<>();
        if (greatest == Long.MAX_VALUE) {
            inside.addAll(List.of(least, least + 1, 24L, 25L, 26L, (long) Integer.MAX_VALUE, 1L << 31,
                    (1L << 32) - 1, 1L << 32, 1L << 42, 1L << 43, 1L << 62, greatest - 1, greatest));
        } else if (greatest - least < 7) {
            for (long n = least; n <= greatest; n++) {
                inside.add(n);
            }
        } else {
            inside.addAll(List.of(least, least + 1, greatest - 1, greatest));
        }
        return inside;
    }
}
