/** Promise 3: the listener, each number 0 .. its size. */
public final class ListenerTest {
    public static void main(String[] args) {
        Check check = new Check();
        RoomEchoes room = new RoomEchoes(10, 8, 3);
        room.source(3, 4, 2);
        room.listener(7, 1, 0);
        check.due("distance after listener(7, 1, 0)", room.image(0, 0, 0, 0), 16 + 9 + 4);
        check.due("image 1 after it", room.image(1, 0, 0, 0), 10 * 10 + 9 + 4);
        check.due("image -1 after it", room.image(0, 0, -1, 0), 16 + 9 + 4);
        check.due("echo 0 after it", room.echo(0, 0), 29);
        room.listener(10, 8, 3);
        check.due("after the greatest listener", room.image(0, 0, 0, 0), 49 + 16 + 1);
        check.due("echoes are ordered anew", room.echo(0, 0), 66);
        room.listener(0, 0, 0);
        check.due("after the least listener", room.image(0, 0, 0, 0), 9 + 16 + 4);
        check.due("echo 1 after it", room.echo(1, 4), -1);

        room.listener(7, 1, 2);
        int[][] wrong = {{-1, 0, 0}, {0, -1, 0}, {0, 0, -1}, {11, 0, 0}, {0, 9, 0}, {0, 0, 4},
            {Integer.MAX_VALUE, 0, 0}, {0, Integer.MIN_VALUE, 0}, {0, 0, Integer.MAX_VALUE},
            {10, 8, 4}, {10, 9, 3}, {5, 5, -1}};
        for (int[] point : wrong) {
            String call = "listener(" + point[0] + ", " + point[1] + ", " + point[2] + ")";
            check.illegalRun(call, () -> room.listener(point[0], point[1], point[2]));
            check.due("nothing changed by " + call, room.image(0, 0, 0, 0), 25);
            check.due("no echo changed by " + call, room.echo(0, 0), 25);
        }
        check.end();
    }
}
