import java.util.ArrayList;
import java.util.List;

/**
 * Terms: "In all calls illegal argument: a number is out of its bounds. A call that throws changes
 * nothing." Every call of the face, with each of its numbers just outside, far outside and at the
 * ends of its type, the others at their least, amid and at their greatest.
 */
public final class RefusedCallsTest {
    private static final Check CHECK = new Check();
    private static final Setting SETTING = Setting.of(10, 8, 3).source(3, 4, 2).listener(7, 1, 2)
            .keeps(950, 700, 850, 1000, 400, 600);
    private static final Setting MOVED = Setting.of(10, 8, 3).source(10, 8, 3).listener(0, 5, 3)
            .keeps(0, 999, 1000, 1, 900, 800);

    private static final Answers OF_NEW = Answers.of(new RoomEchoes(10, 8, 3));
    private static final Answers OF_SETTING = Answers.of(SETTING.make());
    private static final Answers OF_MOVED = Answers.of(MOVED.make());

    public static void main(String[] args) {
        for (FaceCall call : FaceCall.values()) {
            List<long[]> refused = refused(call);
            for (long[] n : refused) {
                asFirstCall(call, n);
                aheadOfAllAnswers(call, n);
                behindAllAnswers(call, n);
                betweenSettingAndAnswers(call, n);
                aheadOfSetting(call, n);
            }
            manyInARow(call, refused);
        }
        CHECK.end();
    }

    private static List<long[]> refused(FaceCall call) {
        long[][] bounds = call.bounds(SETTING);
        List<long[]> refused = new ArrayList<>();
        for (int i = 0; i < bounds.length; i++) {
            for (long wrong : outside(bounds[i][0], bounds[i][1])) {
                for (long[] n : List.of(least(bounds), amid(bounds), greatest(bounds))) {
                    n[i] = wrong;
                    refused.add(n);
                }
            }
        }
        for (int which = 0; which < 4; which++) {
            refused.add(allOutside(bounds, which));
        }
        if (call == FaceCall.LOUD) {
            refused.addAll(List.of(new long[] {1, 0}, new long[] {250, 249}, new long[] {499, 498},
                    new long[] {499, 0}));
        }
        for (long[] n : refused) {
            CHECK.due(call.told(n) + " is out of its bounds", call.takes(SETTING, n) ? 0 : 1, 1);
        }
        return refused;
    }

    /** The next ones outside, the ends of the type, and such as would fold back in if cut short. */
    private static List<Long> outside(long least, long greatest) {
        if (greatest == Long.MAX_VALUE) {
            return List.of(least - 1, Long.MIN_VALUE, (long) Integer.MIN_VALUE, -(1L << 32),
                    -(1L << 32) + 25, Long.MIN_VALUE + 25);
        }
        return List.of(least - 1, greatest + 1, (long) Integer.MIN_VALUE, (long) Integer.MAX_VALUE,
                greatest + 1024, greatest + 65536, least - 1024, least - 65536);
    }

    private static long[] allOutside(long[][] bounds, int which) {
        long[] n = new long[bounds.length];
        for (int i = 0; i < n.length; i++) {
            n[i] = outside(bounds[i][0], bounds[i][1]).get(which);
        }
        return n;
    }

    private static long[] least(long[][] bounds) {
        long[] n = new long[bounds.length];
        for (int i = 0; i < n.length; i++) {
            n[i] = bounds[i][0];
        }
        return n;
    }

    private static long[] amid(long[][] bounds) {
        long[] n = new long[bounds.length];
        for (int i = 0; i < n.length; i++) {
            n[i] = bounds[i][1] == Long.MAX_VALUE ? 100 : (bounds[i][0] + bounds[i][1]) / 2;
        }
        return n;
    }

    private static long[] greatest(long[][] bounds) {
        long[] n = new long[bounds.length];
        for (int i = 0; i < n.length; i++) {
            n[i] = bounds[i][1];
        }
        return n;
    }

    private static void refuse(RoomEchoes room, FaceCall call, long[] n) {
        CHECK.illegal(call.told(n), () -> call.answer(room, n));
    }

    private static void asFirstCall(FaceCall call, long[] n) {
        RoomEchoes room = new RoomEchoes(10, 8, 3);
        refuse(room, call, n);
        Answers.of(room).sameAs(OF_NEW, CHECK, call.told(n) + " as the first call");
    }

    private static void aheadOfAllAnswers(FaceCall call, long[] n) {
        RoomEchoes room = SETTING.make();
        refuse(room, call, n);
        Answers.of(room).sameAs(OF_SETTING, CHECK, call.told(n) + " ahead of all answers");
    }

    private static void behindAllAnswers(FaceCall call, long[] n) {
        RoomEchoes room = SETTING.make();
        Answers ahead = Answers.of(room);
        refuse(room, call, n);
        Answers.of(room).sameAs(ahead, CHECK, call.told(n) + " behind all answers");
    }

    /** What the object has worked out is of another setting when the call is refused. */
    private static void betweenSettingAndAnswers(FaceCall call, long[] n) {
        RoomEchoes room = MOVED.make();
        Answers.of(room);
        SETTING.setIn(room);
        refuse(room, call, n);
        Answers.of(room).sameAs(OF_SETTING, CHECK, call.told(n) + " between setting and answers");
    }

    private static void aheadOfSetting(FaceCall call, long[] n) {
        RoomEchoes room = SETTING.make();
        Answers.of(room);
        refuse(room, call, n);
        MOVED.setIn(room);
        Answers.of(room).sameAs(OF_MOVED, CHECK, call.told(n) + " ahead of setting");
    }

    private static void manyInARow(FaceCall call, List<long[]> refused) {
        RoomEchoes room = SETTING.make();
        Answers.of(room);
        for (long[] n : refused) {
            refuse(room, call, n);
        }
        Answers.of(room).sameAs(OF_SETTING, CHECK, "all refused of " + call);
    }
}
