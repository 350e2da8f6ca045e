/** Promise 1: sizes taken into 1 .. 1000, source and listener at 0, 0, 0. */
public final class NewObjectTest {
    private static final Check CHECK = new Check();

    public static void main(String[] args) {
        sizes(7, 8, 9, 7, 8, 9);
        belowOneCountsAsOne();
        aboveThousandCountsAsThousand();
        sizes(1, 1, 1, 1, 1, 1);
        sizes(0, 1, 2, 1, 1, 2);
        sizes(-1, 0, 1, 1, 1, 1);
        sizes(1000, 999, 1000, 1000, 999, 1000);
        sizes(1001, 1000, 5, 1000, 1000, 5);
        sizes(5, 1001, 2000, 5, 1000, 1000);
        sizes(Integer.MIN_VALUE, Integer.MAX_VALUE, Integer.MIN_VALUE, 1, 1000, 1);
        sizes(Integer.MAX_VALUE, Integer.MIN_VALUE, Integer.MAX_VALUE, 1000, 1, 1000);
        pointsAtZero();
        wallsKeepAtFirst();
        objectsAreApart();
        CHECK.end();
    }

    /** With source and listener at 0 the image 2 on an axis is two sizes off. */
    private static void sizes(int x, int y, int z, long dueX, long dueY, long dueZ) {
        RoomEchoes room = new RoomEchoes(x, y, z);
        String call = "new RoomEchoes(" + x + ", " + y + ", " + z + ")";
        CHECK.due(call + " first size", room.image(2, 0, 0, 0), 4 * dueX * dueX);
        CHECK.due(call + " second size", room.image(0, 2, 0, 0), 4 * dueY * dueY);
        CHECK.due(call + " third size", room.image(0, 0, 2, 0), 4 * dueZ * dueZ);
        room.source((int) dueX, (int) dueY, (int) dueZ);
        CHECK.illegalRun(call + " source behind x", () -> room.source((int) dueX + 1, 0, 0));
        CHECK.illegalRun(call + " source behind y", () -> room.source(0, (int) dueY + 1, 0));
        CHECK.illegalRun(call + " source behind z", () -> room.source(0, 0, (int) dueZ + 1));
        CHECK.illegalRun(call + " listener behind x", () -> room.listener((int) dueX + 1, 0, 0));
        CHECK.illegalRun(call + " listener behind y", () -> room.listener(0, (int) dueY + 1, 0));
        CHECK.illegalRun(call + " listener behind z", () -> room.listener(0, 0, (int) dueZ + 1));
    }

    private static void belowOneCountsAsOne() {
        for (int below : new int[] {0, -1, -2, -1000, -1001, Integer.MIN_VALUE + 1, Integer.MIN_VALUE}) {
            sizes(below, 8, 9, 1, 8, 9);
            sizes(7, below, 9, 7, 1, 9);
            sizes(7, 8, below, 7, 8, 1);
            sameAs(new RoomEchoes(below, below, below), new RoomEchoes(1, 1, 1), below);
        }
    }

    private static void aboveThousandCountsAsThousand() {
        for (int above : new int[] {1001, 1002, 2000, 65536, Integer.MAX_VALUE - 1, Integer.MAX_VALUE}) {
            sizes(above, 8, 9, 1000, 8, 9);
            sizes(7, above, 9, 7, 1000, 9);
            sizes(7, 8, above, 7, 8, 1000);
            sameAs(new RoomEchoes(above, above, above), new RoomEchoes(1000, 1000, 1000), above);
        }
    }

    private static void sameAs(RoomEchoes room, RoomEchoes other, int asked) {
        Answers.of(room).sameAs(Answers.of(other), CHECK, "all sizes asked as " + asked);
    }

    private static void pointsAtZero() {
        RoomEchoes room = new RoomEchoes(10, 20, 30);
        CHECK.due("image(0, 0, 0, 0)", room.image(0, 0, 0, 0), 0);
        CHECK.due("image(-1, -1, -1, 0)", room.image(-1, -1, -1, 0), 0);
        CHECK.due("image(1, 0, 0, 0)", room.image(1, 0, 0, 0), 400);
        room.source(1, 2, 3);
        CHECK.due("listener at 0, 0, 0", room.image(0, 0, 0, 0), 14);
        RoomEchoes other = new RoomEchoes(10, 20, 30);
        other.listener(3, 2, 1);
        CHECK.due("source at 0, 0, 0", other.image(0, 0, 0, 0), 14);
        RoomEchoes put = new RoomEchoes(10, 20, 30);
        put.source(0, 0, 0);
        put.listener(0, 0, 0);
        Answers.of(put).sameAs(Answers.of(new RoomEchoes(10, 20, 30)), CHECK, "both put at 0, 0, 0");
    }

    private static void wallsKeepAtFirst() {
        RoomEchoes room = new RoomEchoes(10, 20, 30);
        for (int wall = 0; wall < 6; wall++) {
            CHECK.due("keeps(" + wall + ", 1)", room.keeps(wall, 1), 900);
        }
    }

    private static void objectsAreApart() {
        RoomEchoes one = new RoomEchoes(10, 20, 30);
        RoomEchoes other = new RoomEchoes(10, 20, 30);
        one.source(10, 20, 30);
        one.keeps(0, 0);
        CHECK.due("the other's source", other.echo(0, 0), 0);
        CHECK.due("the other's wall", other.keeps(0, 5), 900);
    }
}
