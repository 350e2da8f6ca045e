/** Promise 6: the first five hundred images in their order. */
public final class EchoTest {
    private static final Check CHECK = new Check();

    public static void main(String[] args) {
        equalDistancesInTheirOrder();
        allThatIsToldOfOne();
        lastOne();
        thinRoomRunsOutOfNumbers();
        orderFollowsThePoints();
        wrongOnes();
        CHECK.end();
    }

    private static void told(RoomEchoes room, int k, long distance, long a, long b, long c) {
        CHECK.due("echo(" + k + ", 0)", room.echo(k, 0), distance);
        CHECK.due("echo(" + k + ", 4)", room.echo(k, 4), a);
        CHECK.due("echo(" + k + ", 5)", room.echo(k, 5), b);
        CHECK.due("echo(" + k + ", 6)", room.echo(k, 6), c);
    }

    /** From the middle of a cube: the source, six at one size, twelve at two, eight at three. */
    private static void equalDistancesInTheirOrder() {
        RoomEchoes room = new RoomEchoes(2, 2, 2);
        room.source(1, 1, 1);
        room.listener(1, 1, 1);
        told(room, 0, 0, 0, 0, 0);
        told(room, 1, 4, -1, 0, 0);
        told(room, 2, 4, 0, -1, 0);
        told(room, 3, 4, 0, 0, -1);
        told(room, 4, 4, 0, 0, 1);
        told(room, 5, 4, 0, 1, 0);
        told(room, 6, 4, 1, 0, 0);
        told(room, 7, 8, -1, -1, 0);
        told(room, 8, 8, -1, 0, -1);
        told(room, 9, 8, -1, 0, 1);
        told(room, 10, 8, -1, 1, 0);
        told(room, 11, 8, 0, -1, -1);
        told(room, 18, 8, 1, 1, 0);
        told(room, 19, 12, -1, -1, -1);
        told(room, 26, 12, 1, 1, 1);
        told(room, 27, 16, -2, 0, 0);
    }

    private static void allThatIsToldOfOne() {
        RoomEchoes room = new RoomEchoes(10, 8, 3);
        room.source(3, 4, 2);
        room.listener(7, 1, 2);
        told(room, 3, 41, 0, 0, -1);
        CHECK.due("echo(3, 1)", room.echo(3, 1), 900000000);
        CHECK.due("echo(3, 2)", room.echo(3, 2), 900000000 / 42);
        CHECK.due("echo(3, 3)", room.echo(3, 3), 1);
        told(room, 9, 77, 0, -1, 2);
        room.keeps(2, 500);
        CHECK.due("echo(9, 1)", room.echo(9, 1), 405000000);
        CHECK.due("echo(9, 2)", room.echo(9, 2), 405000000 / 78);
        CHECK.due("echo(9, 3)", room.echo(9, 3), 3);
    }

    /** 485 images are nearer to a cube's middle than 100, and 30 as far: the last is amid them. */
    private static void lastOne() {
        RoomEchoes room = new RoomEchoes(2, 2, 2);
        room.source(1, 1, 1);
        room.listener(1, 1, 1);
        CHECK.due("echo(484, 0)", room.echo(484, 0), 96);
        told(room, 485, 100, -5, 0, 0);
        told(room, 498, 100, 0, -3, 4);
        told(room, 499, 100, 0, 0, -5);
        CHECK.due("echo(499, 1)", room.echo(499, 1), 590490000);
        CHECK.due("echo(499, 2)", room.echo(499, 2), 590490000 / 101);
        CHECK.due("echo(499, 3)", room.echo(499, 3), 5);
    }

    /** Behind 40 there is no image, though it would be nearer than the next one on another axis. */
    private static void thinRoomRunsOutOfNumbers() {
        RoomEchoes room = new RoomEchoes(1, 1000, 1000);
        room.source(0, 500, 500);
        room.listener(0, 500, 500);
        told(room, 78, 1600, -40, 0, 0);
        told(room, 79, 1600, 39, 0, 0);
        told(room, 80, 1600, 40, 0, 0);
        told(room, 81, 1000000, -1, -1, 0);
        told(room, 85, 1000000, 0, -1, 0);
    }

    private static void orderFollowsThePoints() {
        RoomEchoes room = new RoomEchoes(10, 10, 10);
        room.source(5, 5, 5);
        room.listener(1, 5, 5);
        told(room, 1, 36, -1, 0, 0);
        room.listener(9, 5, 5);
        told(room, 1, 36, 1, 0, 0);
        room.source(5, 1, 5);
        told(room, 1, 16 + 36, 0, -1, 0);
        room.keeps(2, 0);
        told(room, 1, 16 + 36, 0, -1, 0);
        CHECK.due("echo(1, 1) behind a wall that keeps nothing", room.echo(1, 1), 0);
        CHECK.due("echo(1, 2) behind a wall that keeps nothing", room.echo(1, 2), 0);
    }

    private static void wrongOnes() {
        RoomEchoes room = new RoomEchoes(10, 8, 3);
        int[][] wrong = {{-1, 0}, {500, 0}, {0, -1}, {0, 7}, {499, 7}, {500, 6}, {-1, -1},
            {Integer.MIN_VALUE, 0}, {Integer.MAX_VALUE, 0}, {0, Integer.MIN_VALUE},
            {0, Integer.MAX_VALUE}};
        for (int[] pair : wrong) {
            String call = "echo(" + pair[0] + ", " + pair[1] + ")";
            CHECK.illegal(call, () -> room.echo(pair[0], pair[1]));
            told(room, 1, 0, -1, -1, 0);
        }
    }
}
