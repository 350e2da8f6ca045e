import java.util.List;

/**
 * What it is: "An object is used for at most 512 calls after it has been made": all of the 512
 * answer as they would on a new object, whatever came ahead of them.
 */
public final class CallsTest {
    private static final int CALLS = 512;
    private static final Check CHECK = new Check();
    private static final Setting SETTING = Setting.of(10, 8, 3).source(3, 4, 2).listener(7, 1, 2)
            .keeps(950, 700, 850, 1000, 400, 600);
    private static final int CALLS_TO_SET = 8;
    private static final PlainRoom PLAIN = new PlainRoom(SETTING);
    private static final PlainRoom PLAIN_AT_FIRST = new PlainRoom(Setting.of(10, 8, 3));
    private static final List<FaceCall> QUESTIONS = List.of(FaceCall.IMAGE, FaceCall.ECHO,
            FaceCall.PLACE, FaceCall.UNTIL, FaceCall.LOUD, FaceCall.EARLY, FaceCall.ENOUGH,
            FaceCall.LOUDEST);

    public static void main(String[] args) {
        for (FaceCall question : QUESTIONS) {
            oneQuestionInAllCalls(question);
            lastCall(question);
        }
        allQuestionsInTurn();
        refusedInAllCallsButTheLast();
        movedAsOftenAsAsked();
        movedInAllCallsButTheLast();
        keepsInAllCalls();
        CHECK.end();
    }

    /** Numbers that a question takes, others for each i. */
    private static long[] numbers(FaceCall question, int i) {
        return switch (question) {
            case IMAGE -> new long[] {i % 81 - 40, 40 - i % 73, i % 67 - 33, i % 4};
            case ECHO -> new long[] {i % 500, i % 7};
            case PLACE -> new long[] {i % 9 - 4, i % 7 - 3, i % 11 - 5};
            case UNTIL -> new long[] {2L * i};
            case LOUD -> new long[] {i % 500 / 3, i % 500};
            case EARLY -> new long[] {2L * i, i % 2};
            case ENOUGH -> new long[] {(int) (i * 1000L / CALLS)};
            case LOUDEST -> new long[] {i % 501 - 1};
            default -> throw new AssertionError(question);
        };
    }

    private static void ask(RoomEchoes room, FaceCall question, int i, String when) {
        long[] n = numbers(question, i);
        CHECK.answers(question.told(n) + when, () -> question.answer(room, n), question.due(PLAIN, n));
    }

    private static void oneQuestionInAllCalls(FaceCall question) {
        RoomEchoes room = new RoomEchoes(10, 8, 3);
        for (int call = 1; call <= CALLS; call++) {
            long[] n = numbers(question, call);
            CHECK.answers(question.told(n) + " as call " + call, () -> question.answer(room, n),
                    question.due(PLAIN_AT_FIRST, n));
        }
    }

    private static void lastCall(FaceCall question) {
        RoomEchoes room = SETTING.make();
        for (int call = CALLS_TO_SET + 1; call < CALLS; call++) {
            QUESTIONS.get(call % QUESTIONS.size()).answer(room,
                    numbers(QUESTIONS.get(call % QUESTIONS.size()), call));
        }
        ask(room, question, 77, " as the last call");
    }

    private static void allQuestionsInTurn() {
        RoomEchoes room = SETTING.make();
        for (int call = CALLS_TO_SET + 1; call <= CALLS; call++) {
            ask(room, QUESTIONS.get(call % QUESTIONS.size()), call, " as call " + call);
        }
    }

    private static void refusedInAllCallsButTheLast() {
        for (FaceCall question : QUESTIONS) {
            RoomEchoes room = SETTING.make();
            for (int call = CALLS_TO_SET + 1; call < CALLS; call++) {
                int k = 500 + call;
                CHECK.illegal("echo(" + k + ", 0) as call " + call, () -> room.echo(k, 0));
            }
            ask(room, question, 99, " behind refused calls");
        }
    }

    /** Echo 0 is as long as the straight way, for no image is nearer than the source itself. */
    private static void movedAsOftenAsAsked() {
        RoomEchoes room = new RoomEchoes(10, 8, 3);
        int[] source = new int[3];
        int[] listener = new int[3];
        for (int i = 0; i < CALLS / 2; i++) {
            int[] point = {i * 7 % 11, i * 5 % 9, i * 3 % 4};
            if (i % 2 == 0) {
                room.source(point[0], point[1], point[2]);
                source = point;
            } else {
                room.listener(point[0], point[1], point[2]);
                listener = point;
            }
            CHECK.due("echo(0, 0) as call " + (2 * i + 2), room.echo(0, 0), distance(source, listener));
        }
    }

    private static void movedInAllCallsButTheLast() {
        RoomEchoes sourceMoved = new RoomEchoes(10, 8, 3);
        RoomEchoes listenerMoved = new RoomEchoes(10, 8, 3);
        for (int call = 1; call < CALLS; call++) {
            sourceMoved.source(call % 11, call % 9, call % 4);
            listenerMoved.listener(call % 11, call % 9, call % 4);
        }
        // 511 leaves 5, 7 and 3.
        CHECK.due("echo(0, 0) behind source", sourceMoved.echo(0, 0), 25 + 49 + 9);
        CHECK.due("echo(0, 0) behind listener", listenerMoved.echo(0, 0), 25 + 49 + 9);
    }

    private static long distance(int[] one, int[] other) {
        long sum = 0;
        for (int axis = 0; axis < 3; axis++) {
            sum += (long) (one[axis] - other[axis]) * (one[axis] - other[axis]);
        }
        return sum;
    }

    private static void keepsInAllCalls() {
        RoomEchoes room = new RoomEchoes(10, 8, 3);
        for (int call = 1; call <= CALLS; call++) {
            int before = call <= 6 ? 900 : call - 6;
            CHECK.due("keeps as call " + call, room.keeps(call % 6, call), before);
        }
    }
}
