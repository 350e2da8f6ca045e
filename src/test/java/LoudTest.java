/** Promise 9: the loudness of echoes, summed from one to another. */
public final class LoudTest {
    public static void main(String[] args) {
        Check check = new Check();
        RoomEchoes room = new RoomEchoes(10, 8, 3);
        room.source(3, 4, 2);
        room.listener(7, 1, 2);
        check.due("loud(0, 0)", room.loud(0, 0), 1000000000 / 26);
        check.due("loud(1, 1)", room.loud(1, 1), 900000000 / 30);
        check.due("loud(0, 1)", room.loud(0, 1), 1000000000 / 26 + 900000000 / 30);
        check.due("loud(2, 3)", room.loud(2, 3), 2 * (900000000 / 42));
        check.due("loud(0, 499)", room.loud(0, 499), 850752019);
        check.due("loud(1, 499)", room.loud(1, 499), 850752019 - 1000000000 / 26);
        check.due("loud(499, 499)", room.loud(499, 499), room.echo(499, 2));
        check.due("the parts of all", room.loud(0, 249) + room.loud(250, 499), 850752019);

        room.listener(3, 4, 2);
        check.due("loud(0, 0) at the source", room.loud(0, 0), 1000000000);
        room.source(3, 4, 1);
        check.due("loud(0, 0) off the source", room.loud(0, 0), 500000000);

        RoomEchoes small = new RoomEchoes(1, 1, 1);
        for (int wall = 0; wall < 6; wall++) {
            small.keeps(wall, 1000);
        }
        check.due("loud(0, 7) of eight whole ones", small.loud(0, 7), 8000000000L);

        int[][] wrong = {{-1, 0}, {-1, -1}, {0, -1}, {0, 500}, {500, 500}, {499, 500}, {5, 4},
            {499, 498}, {1, 0}, {Integer.MIN_VALUE, 0}, {0, Integer.MAX_VALUE},
            {Integer.MAX_VALUE, Integer.MAX_VALUE}, {Integer.MIN_VALUE, Integer.MIN_VALUE},
            {Integer.MAX_VALUE, Integer.MIN_VALUE}};
        for (int[] pair : wrong) {
            String call = "loud(" + pair[0] + ", " + pair[1] + ")";
            check.illegal(call, () -> room.loud(pair[0], pair[1]));
            check.due("nothing changed by " + call, room.loud(0, 0), 500000000);
        }
        check.end();
    }
}
