/** Promise 2: the source, each number 0 .. its size. */
public final class SourceTest {
    public static void main(String[] args) {
        Check check = new Check();
        RoomEchoes room = new RoomEchoes(10, 8, 3);
        room.listener(1, 1, 1);
        room.source(3, 4, 2);
        check.due("distance after source(3, 4, 2)", room.image(0, 0, 0, 0), 4 + 9 + 1);
        check.due("image 1 after it", room.image(1, 0, 0, 0), 16 * 16 + 9 + 1);
        check.due("image -1 after it", room.image(-1, 0, 0, 0), 4 * 4 + 9 + 1);
        check.due("echo 0 after it", room.echo(0, 0), 14);
        room.source(10, 8, 3);
        check.due("echo 0 after the greatest source", room.image(0, 0, 0, 0), 81 + 49 + 4);
        check.due("echoes are ordered anew", room.echo(0, 0), 134);
        room.source(0, 0, 0);
        check.due("after the least source", room.image(0, 0, 0, 0), 3);
        check.due("echoes are ordered anew again", room.echo(0, 0), 3);

        room.source(3, 4, 2);
        int[][] wrong = {{-1, 0, 0}, {0, -1, 0}, {0, 0, -1}, {11, 0, 0}, {0, 9, 0}, {0, 0, 4},
            {Integer.MIN_VALUE, 0, 0}, {0, Integer.MAX_VALUE, 0}, {0, 0, Integer.MIN_VALUE},
            {10, 8, 4}, {10, 9, 3}, {5, 5, -1}};
        for (int[] point : wrong) {
            String call = "source(" + point[0] + ", " + point[1] + ", " + point[2] + ")";
            check.illegalRun(call, () -> room.source(point[0], point[1], point[2]));
            check.due("nothing changed by " + call, room.image(0, 0, 0, 0), 14);
            check.due("no echo changed by " + call, room.echo(0, 0), 14);
        }
        check.end();
    }
}
