/** Promise 3: the listener, each number 0 .. its size. */
public final class ListenerTest {
    private static final Check CHECK = new Check();

    public static void main(String[] args) {
        distancesFollow();
        orderFollows();
        loudnessFollows();
        leastAndGreatest();
        outOfBounds();
        CHECK.end();
    }

    private static void distancesFollow() {
        RoomEchoes room = new RoomEchoes(10, 8, 3);
        room.source(3, 4, 2);
        room.listener(7, 1, 0);
        CHECK.due("distance after listener(7, 1, 0)", room.image(0, 0, 0, 0), 16 + 9 + 4);
        CHECK.due("image 1 after it", room.image(1, 0, 0, 0), 10 * 10 + 9 + 4);
        CHECK.due("image -1 after it", room.image(0, 0, -1, 0), 16 + 9 + 4);
        CHECK.due("echo 0 after it", room.echo(0, 0), 29);
        room.listener(7, 1, 0);
        CHECK.due("echo 0 after the same again", room.echo(0, 0), 29);
    }

    /** The nearest wall's image is echo 1, and that wall changes with the listener. */
    private static void orderFollows() {
        RoomEchoes room = new RoomEchoes(10, 10, 10);
        room.source(5, 5, 5);
        int[][] due = {{1, 5, 5, -1, 0, 0}, {9, 5, 5, 1, 0, 0}, {5, 1, 5, 0, -1, 0}, {5, 9, 5, 0, 1, 0},
            {5, 5, 1, 0, 0, -1}, {5, 5, 9, 0, 0, 1}};
        for (int[] row : due) {
            String call = "listener(" + row[0] + ", " + row[1] + ", " + row[2] + ")";
            room.listener(row[0], row[1], row[2]);
            CHECK.due("a of echo 1 after " + call, room.echo(1, 4), row[3]);
            CHECK.due("b of echo 1 after " + call, room.echo(1, 5), row[4]);
            CHECK.due("c of echo 1 after " + call, room.echo(1, 6), row[5]);
            CHECK.due("its place after " + call, room.place(row[3], row[4], row[5]), 1);
            CHECK.due("until(36) after " + call, room.until(36), 2);
        }
    }

    private static void loudnessFollows() {
        RoomEchoes room = new RoomEchoes(10, 10, 10);
        room.source(5, 5, 5);
        room.listener(5, 5, 5);
        CHECK.due("loud(0, 0) at the source", room.loud(0, 0), 1000000000);
        room.listener(5, 8, 5);
        CHECK.due("loud(0, 0) off the source", room.loud(0, 0), 100000000);
        CHECK.due("early(8, 0) off the source", room.early(8, 0), 0);
    }

    private static void leastAndGreatest() {
        RoomEchoes room = new RoomEchoes(10, 8, 3);
        room.source(3, 4, 2);
        CHECK.takes("listener(10, 8, 3)", () -> room.listener(10, 8, 3));
        CHECK.due("image after the greatest listener", room.image(0, 0, 0, 0), 49 + 16 + 1);
        CHECK.due("echo 0 after the greatest listener", room.echo(0, 0), 66);
        CHECK.takes("listener(0, 0, 0)", () -> room.listener(0, 0, 0));
        CHECK.due("image after the least listener", room.image(0, 0, 0, 0), 9 + 16 + 4);
        CHECK.due("echo 0 after the least listener", room.echo(0, 0), 29);
    }

    private static void outOfBounds() {
        RoomEchoes room = Setting.ordinaryRoom();
        int[][] wrong = {{-1, 0, 0}, {0, -1, 0}, {0, 0, -1}, {11, 0, 0}, {0, 9, 0}, {0, 0, 4},
            {Integer.MIN_VALUE, 0, 0}, {0, Integer.MIN_VALUE, 0}, {0, 0, Integer.MIN_VALUE},
            {Integer.MAX_VALUE, 0, 0}, {0, Integer.MAX_VALUE, 0}, {0, 0, Integer.MAX_VALUE},
            {10, 8, 4}, {10, 9, 3}, {11, 8, 3}, {5, 5, -1}, {11, 9, 4}, {-1, -1, -1}};
        for (int[] point : wrong) {
            String call = "listener(" + point[0] + ", " + point[1] + ", " + point[2] + ")";
            CHECK.illegalRun(call, () -> room.listener(point[0], point[1], point[2]));
            CHECK.due("nothing changed by " + call, room.image(0, 0, 0, 0), 25);
            CHECK.due("no echo changed by " + call, room.echo(0, 0), 25);
        }
    }
}
