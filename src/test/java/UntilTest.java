/** Promise 8: how many echoes have at most such a distance. */
public final class UntilTest {
    public static void main(String[] args) {
        Check check = new Check();
        RoomEchoes room = new RoomEchoes(2, 2, 2);
        room.source(1, 1, 1);
        room.listener(1, 1, 1);
        long[][] due = {{0, 1}, {1, 1}, {3, 1}, {4, 7}, {5, 7}, {7, 7}, {8, 19}, {11, 19}, {12, 27},
            {16, 33}, {1000, 500}, {5043000000L, 500}, {1L << 40, 500}, {Long.MAX_VALUE, 500}};
        for (long[] pair : due) {
            check.due("until(" + pair[0] + ")", room.until(pair[0]), pair[1]);
        }
        long last = room.echo(499, 0);
        check.due("until the last echo's distance", room.until(last), 500);
        check.due("until just below it is fewer", room.until(last - 1) < 500 ? 1 : 0, 1);

        room.listener(0, 1, 1);
        check.due("until(0) away from the source", room.until(0), 0);
        check.due("until(1) away from the source", room.until(1), 2);

        RoomEchoes greatest = new RoomEchoes(1000, 1000, 1000);
        check.due("until(0) at a corner", greatest.until(0), 8);
        check.due("until(3999999) at a corner", greatest.until(3999999), 8);
        check.due("until(4000000) at a corner", greatest.until(4000000), 8 + 3 * 16);

        for (long wrong : new long[] {-1, -2, Long.MIN_VALUE, Integer.MIN_VALUE}) {
            check.illegal("until(" + wrong + ")", () -> room.until(wrong));
            check.due("nothing changed by it", room.until(1), 2);
        }
        check.end();
    }
}
