/** Promise 8: how many echoes have at most such a distance. */
public final class UntilTest {
    private static final Check CHECK = new Check();

    public static void main(String[] args) {
        middleOfACube();
        awayFromTheSource();
        atMostEachDistance();
        lastDistance();
        greatestRoom();
        zeroAndAbove();
        belowZero();
        CHECK.end();
    }

    private static RoomEchoes cube() {
        RoomEchoes room = new RoomEchoes(2, 2, 2);
        room.source(1, 1, 1);
        room.listener(1, 1, 1);
        return room;
    }

    private static void counts(RoomEchoes room, long[][] due) {
        for (long[] pair : due) {
            CHECK.answers("until(" + pair[0] + ")", () -> room.until(pair[0]), pair[1]);
        }
    }

    private static void middleOfACube() {
        counts(cube(), new long[][] {{0, 1}, {1, 1}, {3, 1}, {4, 7}, {5, 7}, {7, 7}, {8, 19}, {11, 19},
            {12, 27}, {16, 33}, {1000, 500}});
    }

    private static void awayFromTheSource() {
        RoomEchoes room = cube();
        CHECK.due("until(0) at the source", room.until(0), 1);
        room.listener(0, 1, 1);
        counts(room, new long[][] {{0, 0}, {1, 2}});
        room.source(0, 1, 1);
        counts(room, new long[][] {{0, 2}, {1, 2}});
    }

    /** "at most such a distance": an echo counts from its own distance on, and not one below it. */
    private static void atMostEachDistance() {
        long[] distances = new long[500];
        RoomEchoes told = Setting.ordinaryRoom();
        for (int k = 0; k < 500; k++) {
            distances[k] = told.echo(k, 0);
        }
        for (int k = 1; k < 500; k++) {
            if (distances[k - 1] < distances[k]) {
                RoomEchoes room = Setting.ordinaryRoom();
                counts(room, new long[][] {{distances[k - 1], k}, {distances[k] - 1, k}});
                CHECK.due("echo " + k + " counts", room.until(distances[k]) > k ? 1 : 0, 1);
            }
        }
    }

    /** Of the 30 images at distance 100 only 15 are echoes. */
    private static void lastDistance() {
        counts(cube(), new long[][] {{96, 485}, {99, 485}, {100, 500}, {101, 500}});
        counts(Setting.ordinaryRoom(), new long[][] {{24, 0}, {25, 1}, {945, 500}});
    }

    private static void greatestRoom() {
        counts(new RoomEchoes(1000, 1000, 1000), new long[][] {{0, 8}, {3999999, 8},
            {4000000, 8 + 3 * 16}, {5043000000L, 500}});
    }

    /** A distance is a long: none of them is too great. */
    private static void zeroAndAbove() {
        counts(cube(), new long[][] {{0, 1}, {Integer.MAX_VALUE, 500}, {1L << 31, 500},
            {(1L << 32) - 1, 500}, {1L << 32, 500}, {(1L << 32) + 4, 500}, {1L << 42, 500},
            {1L << 43, 500}, {Long.MAX_VALUE - 1, 500}, {Long.MAX_VALUE, 500}});
    }

    private static void belowZero() {
        RoomEchoes room = cube();
        for (long wrong : new long[] {-1, -2, Integer.MIN_VALUE, -(1L << 32), Long.MIN_VALUE + 1, Long.MIN_VALUE}) {
            CHECK.illegal("until(" + wrong + ")", () -> room.until(wrong));
            CHECK.due("until(4) behind until(" + wrong + ")", room.until(4), 7);
        }
    }
}
