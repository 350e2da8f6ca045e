/** Promise 9: the loudness of echoes, summed from one to another. */
public final class LoudTest {
    private static final Check CHECK = new Check();

    public static void main(String[] args) {
        ordinarySums();
        fromOneToTheSame();
        followsWhatIsSet();
        sumAboveEveryInt();
        outOfBounds();
        toBelowFrom();
        CHECK.end();
    }

    private static void ordinarySums() {
        RoomEchoes room = Setting.ordinaryRoom();
        CHECK.due("loud(0, 1)", room.loud(0, 1), 1000000000 / 26 + 900000000 / 30);
        CHECK.due("loud(2, 3)", room.loud(2, 3), 2 * (900000000 / 42));
        CHECK.due("loud(0, 499)", room.loud(0, 499), 850752019);
        CHECK.due("loud(1, 499)", room.loud(1, 499), 850752019 - 1000000000 / 26);
        CHECK.due("loud(0, 498)", room.loud(0, 498), 850752019 - room.echo(499, 2));
        CHECK.due("loud(498, 499)", room.loud(498, 499), room.echo(498, 2) + room.echo(499, 2));
        CHECK.due("the parts of all", room.loud(0, 249) + room.loud(250, 499), 850752019);
    }

    private static void fromOneToTheSame() {
        RoomEchoes room = Setting.ordinaryRoom();
        CHECK.due("loud(0, 0)", room.loud(0, 0), 1000000000 / 26);
        CHECK.due("loud(1, 1)", room.loud(1, 1), 900000000 / 30);
        for (int k = 0; k < 500; k += 7) {
            CHECK.due("loud(" + k + ", " + k + ")", room.loud(k, k), room.echo(k, 2));
        }
        CHECK.due("loud(499, 499)", room.loud(499, 499), room.echo(499, 2));
    }

    private static void followsWhatIsSet() {
        RoomEchoes room = Setting.ordinaryRoom();
        CHECK.due("loud(0, 0)", room.loud(0, 0), 1000000000 / 26);
        room.listener(3, 4, 2);
        CHECK.due("loud(0, 0) at the source", room.loud(0, 0), 1000000000);
        room.source(3, 4, 1);
        CHECK.due("loud(0, 0) off the source", room.loud(0, 0), 500000000);
        CHECK.due("loud(1, 1) by wall 4", room.loud(1, 1), 900000000 / 10);
        room.keeps(4, 100);
        CHECK.due("loud(1, 1) by wall 4 that keeps less", room.loud(1, 1), 100000000 / 10);
    }

    private static void sumAboveEveryInt() {
        RoomEchoes small = new RoomEchoes(1, 1, 1);
        for (int wall = 0; wall < 6; wall++) {
            small.keeps(wall, 1000);
        }
        CHECK.due("loud(0, 2) of three whole ones", small.loud(0, 2), 3000000000L);
        CHECK.due("loud(0, 7) of eight whole ones", small.loud(0, 7), 8000000000L);
        CHECK.due("loud(7, 7)", small.loud(7, 7), 1000000000);
    }

    private static void refused(RoomEchoes room, int from, int to) {
        String call = "loud(" + from + ", " + to + ")";
        CHECK.illegal(call, () -> room.loud(from, to));
        CHECK.due("loud(0, 0) behind " + call, room.loud(0, 0), 1000000000 / 26);
    }

    private static void outOfBounds() {
        RoomEchoes room = Setting.ordinaryRoom();
        int[][] wrong = {{-1, 0}, {-1, -1}, {-1, 499}, {0, 500}, {500, 500}, {499, 500}, {500, 501},
            {Integer.MIN_VALUE, 0}, {0, Integer.MAX_VALUE}, {499, Integer.MAX_VALUE},
            {Integer.MIN_VALUE, Integer.MIN_VALUE}, {Integer.MAX_VALUE, Integer.MAX_VALUE},
            {Integer.MIN_VALUE, Integer.MAX_VALUE}};
        for (int[] pair : wrong) {
            refused(room, pair[0], pair[1]);
        }
    }

    /** "also if to is below from": both in their bounds, by one and by all. */
    private static void toBelowFrom() {
        RoomEchoes room = Setting.ordinaryRoom();
        int[][] wrong = {{1, 0}, {2, 1}, {250, 249}, {499, 498}, {499, 0}, {250, 0}, {499, 250}, {0, -1},
            {500, 499}, {Integer.MAX_VALUE, 0}, {0, Integer.MIN_VALUE}, {Integer.MAX_VALUE, Integer.MIN_VALUE}};
        for (int[] pair : wrong) {
            refused(room, pair[0], pair[1]);
        }
    }
}
