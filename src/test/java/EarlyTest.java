/** Promise 10: the share of all loudness that comes early, in lowest terms. */
public final class EarlyTest {
    private static final Check CHECK = new Check();

    public static void main(String[] args) {
        ordinaryShares();
        atMostSuchADistance();
        lowestTerms();
        lowestTermsAboveEveryInt();
        noLoudnessAtAll();
        distanceBelowZero();
        partOutOfBounds();
        CHECK.end();
    }

    private static void share(RoomEchoes room, long distance, long above, long below) {
        CHECK.due("early(" + distance + ", 0)", room.early(distance, 0), above);
        CHECK.due("early(" + distance + ", 1)", room.early(distance, 1), below);
    }

    private static void ordinaryShares() {
        RoomEchoes room = Setting.ordinaryRoom();
        share(room, 0, 0, 1);
        share(room, 24, 0, 1);
        share(room, 25, 38461538, 850752019);
        share(room, 28, 38461538, 850752019);
        share(room, 29, 68461538, 850752019);
        share(room, 100, 195814230, 850752019);
        share(room, 945, 1, 1);
        share(room, 1L << 40, 1, 1);
        share(room, Long.MAX_VALUE, 1, 1);
    }

    /** An echo has its share from its own distance on, and not one below it. */
    private static void atMostSuchADistance() {
        RoomEchoes told = Setting.ordinaryRoom();
        for (int k = 1; k < 100; k++) {
            long distance = told.echo(k, 0);
            if (told.echo(k - 1, 0) == distance) {
                continue;
            }
            RoomEchoes room = Setting.ordinaryRoom();
            long ahead = room.loud(0, k - 1);
            isShare(room, distance - 1, ahead);
            isShare(room, distance, room.loud(0, room.until(distance) - 1));
        }
    }

    private static void isShare(RoomEchoes room, long distance, long share) {
        long above = room.early(distance, 0);
        long below = room.early(distance, 1);
        CHECK.due("early(" + distance + ", 0) times all", above * room.loud(0, 499), share * below);
    }

    /** Walls that keep nothing leave the straight way and those by one wall that keeps something. */
    private static void lowestTerms() {
        RoomEchoes room = new RoomEchoes(2, 2, 2);
        room.source(1, 1, 1);
        room.listener(1, 1, 1);
        for (int wall = 0; wall < 6; wall++) {
            room.keeps(wall, 0);
        }
        share(room, 0, 1, 1);
        // The image behind the wall is at distance 4, so it has a fifth of what the wall leaves.
        room.keeps(0, 1000);
        share(room, 0, 5, 6);
        share(room, 3, 5, 6);
        share(room, 4, 1, 1);
        room.keeps(0, 500);
        share(room, 0, 10, 11);
        room.keeps(0, 0);
        room.keeps(3, 250);
        share(room, 0, 20, 21);
    }

    /** Where every wall keeps all, the eight images in a corner have 8000000000 of 46916129936. */
    private static void lowestTermsAboveEveryInt() {
        RoomEchoes room = new RoomEchoes(1, 1, 1);
        for (int wall = 0; wall < 6; wall++) {
            room.keeps(wall, 1000);
        }
        CHECK.due("loud(0, 499)", room.loud(0, 499), 46916129936L);
        share(room, 0, 500000000, 2932258121L);
        share(room, 3, 500000000, 2932258121L);
        share(room, 4, 1100000000, 2932258121L);
        share(room, 7, 1100000000, 2932258121L);
        share(room, 8, 1766666666, 2932258121L);
        share(room, 1L << 32, 1, 1);
    }

    /**
     * The straight way has no hits and is always among the echoes, so all loudness is never 0; none
     * at all is heard only up to a distance that no echo with loudness has.
     */
    private static void noLoudnessAtAll() {
        RoomEchoes room = new RoomEchoes(1000, 1000, 1000);
        room.listener(1000, 1000, 1000);
        for (int wall = 0; wall < 6; wall++) {
            room.keeps(wall, 0);
        }
        CHECK.due("the straight way alone", room.loud(0, 499), 1000000000 / 3000001);
        share(room, 0, 0, 1);
        share(room, 2999999, 0, 1);
        share(room, 3000000, 1, 1);
        share(room, Long.MAX_VALUE, 1, 1);
    }

    private static void refused(long distance, int part) {
        RoomEchoes room = Setting.ordinaryRoom();
        String call = "early(" + distance + ", " + part + ")";
        CHECK.illegal(call, () -> room.early(distance, part));
        share(room, 25, 38461538, 850752019);
    }

    private static void distanceBelowZero() {
        for (long below : new long[] {-1, -2, Integer.MIN_VALUE, -(1L << 32), Long.MIN_VALUE + 1, Long.MIN_VALUE}) {
            refused(below, 0);
            refused(below, 1);
            refused(below, 2);
        }
    }

    private static void partOutOfBounds() {
        for (int part : new int[] {-1, 2, 3, Integer.MIN_VALUE, Integer.MAX_VALUE}) {
            refused(0, part);
            refused(25, part);
            refused(Long.MAX_VALUE, part);
        }
    }
}
