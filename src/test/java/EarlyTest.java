/** Promise 10: the share of all loudness that comes early, in lowest terms. */
public final class EarlyTest {
    private static final Check CHECK = new Check();

    public static void main(String[] args) {
        ordinaryShares();
        lowestTerms();
        noLoudnessAtAll();
        wrongOnes();
        CHECK.end();
    }

    private static void share(RoomEchoes room, long distance, long above, long below) {
        CHECK.due("early(" + distance + ", 0)", room.early(distance, 0), above);
        CHECK.due("early(" + distance + ", 1)", room.early(distance, 1), below);
    }

    private static void ordinaryShares() {
        RoomEchoes room = Setting.ordinaryRoom();
        share(room, 0, 0, 1);
        share(room, 24, 0, 1);
        share(room, 25, 38461538, 850752019);
        share(room, 28, 38461538, 850752019);
        share(room, 29, 68461538, 850752019);
        share(room, 100, 195814230, 850752019);
        share(room, 945, 1, 1);
        share(room, 1L << 40, 1, 1);
        share(room, Long.MAX_VALUE, 1, 1);
    }

    /** Walls that keep nothing leave the straight way and those by one wall that keeps something. */
    private static void lowestTerms() {
        RoomEchoes room = new RoomEchoes(2, 2, 2);
        room.source(1, 1, 1);
        room.listener(1, 1, 1);
        for (int wall = 0; wall < 6; wall++) {
            room.keeps(wall, 0);
        }
        share(room, 0, 1, 1);
        // The image behind the wall is at distance 4, so it has a fifth of what the wall leaves.
        room.keeps(0, 1000);
        share(room, 0, 5, 6);
        share(room, 3, 5, 6);
        share(room, 4, 1, 1);
        room.keeps(0, 500);
        share(room, 0, 10, 11);
        room.keeps(0, 0);
        room.keeps(3, 250);
        share(room, 0, 20, 21);
    }

    /**
     * The straight way has no hits and is always among the echoes, so all loudness is never 0; none
     * at all is heard only up to a distance that no echo with loudness has.
     */
    private static void noLoudnessAtAll() {
        RoomEchoes room = new RoomEchoes(1000, 1000, 1000);
        room.listener(1000, 1000, 1000);
        for (int wall = 0; wall < 6; wall++) {
            room.keeps(wall, 0);
        }
        CHECK.due("the straight way alone", room.loud(0, 499), 1000000000 / 3000001);
        share(room, 0, 0, 1);
        share(room, 2999999, 0, 1);
        share(room, 3000000, 1, 1);
        share(room, Long.MAX_VALUE, 1, 1);
    }

    private static void wrongOnes() {
        RoomEchoes room = Setting.ordinaryRoom();
        long[][] wrong = {{-1, 0}, {-1, 1}, {Long.MIN_VALUE, 0}, {0, -1}, {0, 2}, {25, 2}, {25, -1},
            {25, Integer.MAX_VALUE}, {25, Integer.MIN_VALUE}, {-1, 2}};
        for (long[] pair : wrong) {
            String call = "early(" + pair[0] + ", " + pair[1] + ")";
            CHECK.illegal(call, () -> room.early(pair[0], (int) pair[1]));
            share(room, 25, 38461538, 850752019);
        }
    }
}
