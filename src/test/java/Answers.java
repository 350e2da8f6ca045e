import java.util.ArrayList;
import java.util.List;

/** What a caller sees of an object: its answers to some of every call, in 175 calls. */
final class Answers {
    private static final int[] ECHOES = {0, 1, 7, 60, 250, 498, 499};
    private static final int[][] IMAGES = {{0, 0, 0}, {-1, 0, 0}, {1, 0, 0}, {0, -1, 0}, {0, 1, 0},
        {0, 0, -1}, {0, 0, 1}, {2, -3, 4}, {-40, 40, -40}, {40, -39, 39}};
    private static final long[] DISTANCES = {0, 25, 100, 400, Long.MAX_VALUE};

    private final List<String> calls = new ArrayList<>();
    private final List<Long> answers = new ArrayList<>();
    private final RoomEchoes room;

    private Answers(RoomEchoes room) {
        this.room = room;
    }

    /**
     * How much is asked first, while the walls are as they were left, and last, so that the object
     * has it all worked out again.
     */
    static Answers of(RoomEchoes room) {
        Answers told = new Answers(room);
        told.askHowMuch();
        told.askImages();
        told.askEchoes();
        told.askKeeps();
        told.askHowMuch();
        return told;
    }

    /** Every answer here that is not the one given there is a wrong one. */
    void sameAs(Answers other, Check check, String when) {
        check.due(when + ": number of answers", answers.size(), other.answers.size());
        for (int i = 0; i < answers.size(); i++) {
            check.due(when + ": " + calls.get(i), answers.get(i), other.answers.get(i));
        }
    }

    private void ask(FaceCall call, long... n) {
        calls.add(call.told(n));
        answers.add(call.answer(room, n));
    }

    /** What a wall keeps is told only by setting it, so it is set back. */
    private void askKeeps() {
        for (int wall = 0; wall < 6; wall++) {
            ask(FaceCall.KEEPS, wall, 1);
            room.keeps(wall, (int) (long) answers.get(answers.size() - 1));
        }
    }

    private void askImages() {
        for (int[] image : IMAGES) {
            for (int what = 0; what <= 3; what++) {
                ask(FaceCall.IMAGE, image[0], image[1], image[2], what);
            }
            ask(FaceCall.PLACE, image[0], image[1], image[2]);
        }
    }

    private void askEchoes() {
        for (int k : ECHOES) {
            for (int what = 0; what <= 6; what++) {
                ask(FaceCall.ECHO, k, what);
            }
            ask(FaceCall.LOUDEST, k);
        }
        ask(FaceCall.LOUDEST, RoomEchoes.NONE);
    }

    private void askHowMuch() {
        for (long distance : DISTANCES) {
            ask(FaceCall.UNTIL, distance);
            ask(FaceCall.EARLY, distance, 0);
            ask(FaceCall.EARLY, distance, 1);
        }
        for (int thousandths = 0; thousandths <= 1000; thousandths += 125) {
            ask(FaceCall.ENOUGH, thousandths);
        }
        ask(FaceCall.LOUD, 0, 0);
        ask(FaceCall.LOUD, 0, 499);
        ask(FaceCall.LOUD, 60, 250);
        ask(FaceCall.LOUD, 499, 499);
    }
}
