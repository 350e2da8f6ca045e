/** Terms: the room, its sizes, the points in it, its walls and what they keep. */
public final class RoomTermsTest {
    private static final Check CHECK = new Check();

    public static void main(String[] args) {
        sizesOneToThousandEach();
        pointsZeroToSizeEach();
        pointsOfAClampedRoom();
        wallsAtZeroAndAtTheSize();
        wallsKeepNineHundredAtFirst();
        wallsKeepZeroToThousand();
        CHECK.end();
    }

    /** With source and listener at 0 the image 2 is two sizes off. */
    private static void sizesOneToThousandEach() {
        for (int size = 1; size <= 1000; size++) {
            long due = 4L * size * size;
            CHECK.due("first size " + size, new RoomEchoes(size, 7, 7).image(2, 0, 0, 0), due);
            CHECK.due("second size " + size, new RoomEchoes(7, size, 7).image(0, 2, 0, 0), due);
            CHECK.due("third size " + size, new RoomEchoes(7, 7, size).image(0, 0, 2, 0), due);
        }
    }

    /** Sizes are unlike, so that a number held against another axis' size would show. */
    private static void pointsZeroToSizeEach() {
        int[][] rooms = {{10, 8, 3}, {3, 10, 8}, {8, 3, 10}, {1, 1000, 2}, {1000, 2, 1}, {2, 1, 1000}};
        for (int[] size : rooms) {
            for (int axis = 0; axis < 3; axis++) {
                for (int at : new int[] {0, 1, size[axis] - 1, size[axis]}) {
                    pointTaken(size, axis, at);
                }
                for (int at : new int[] {-1, size[axis] + 1, Integer.MIN_VALUE, Integer.MAX_VALUE}) {
                    pointRefused(size, axis, at);
                }
            }
        }
    }

    private static int[] pointOn(int axis, int at) {
        int[] point = {1, 1, 1};
        point[axis] = at;
        return point;
    }

    private static void pointTaken(int[] size, int axis, int at) {
        RoomEchoes room = new RoomEchoes(size[0], size[1], size[2]);
        int[] p = pointOn(axis, at);
        CHECK.takes(at + " as the source's on axis " + axis, () -> room.source(p[0], p[1], p[2]));
        CHECK.due("distance of it", room.image(0, 0, 0, 0), 2 + (long) at * at);
        CHECK.due("echo 0 then", room.echo(0, 0), 2 + (long) at * at);
        CHECK.takes(at + " as the listener's on axis " + axis, () -> room.listener(p[0], p[1], p[2]));
        CHECK.due("distance at the source", room.image(0, 0, 0, 0), 0);
        CHECK.due("echo 0 at the source", room.echo(0, 0), 0);
    }

    private static void pointRefused(int[] size, int axis, int at) {
        RoomEchoes room = new RoomEchoes(size[0], size[1], size[2]);
        room.listener(1, 0, 0);
        int[] p = pointOn(axis, at);
        CHECK.illegalRun(at + " as the source's on axis " + axis, () -> room.source(p[0], p[1], p[2]));
        CHECK.illegalRun(at + " as the listener's on axis " + axis, () -> room.listener(p[0], p[1], p[2]));
        CHECK.due("distance as before", room.image(0, 0, 0, 0), 1);
        CHECK.due("echo 0 as before", room.echo(0, 0), 1);
    }

    /** Points keep to the size that the room has, not to the one it was asked to have. */
    private static void pointsOfAClampedRoom() {
        RoomEchoes least = new RoomEchoes(0, -5, Integer.MIN_VALUE);
        CHECK.takes("source(1, 1, 1) at size 1", () -> least.source(1, 1, 1));
        CHECK.takes("listener(0, 0, 0) at size 1", () -> least.listener(0, 0, 0));
        CHECK.illegalRun("source(2, 0, 0) at size 1", () -> least.source(2, 0, 0));
        CHECK.illegalRun("listener(0, 2, 0) at size 1", () -> least.listener(0, 2, 0));
        CHECK.due("distance across it", least.echo(0, 0), 3);
        RoomEchoes greatest = new RoomEchoes(1001, 5000, Integer.MAX_VALUE);
        CHECK.takes("source(1000, 1000, 1000)", () -> greatest.source(1000, 1000, 1000));
        CHECK.illegalRun("source(1001, 0, 0)", () -> greatest.source(1001, 0, 0));
        CHECK.illegalRun("listener(0, 1001, 0)", () -> greatest.listener(0, 1001, 0));
        CHECK.illegalRun("listener(0, 0, 1001)", () -> greatest.listener(0, 0, 1001));
        CHECK.due("distance across it", greatest.echo(0, 0), 3000000);
    }

    /** An image of one hit is behind the wall it hits: -s at 0, 2 w - s at the size. */
    private static void wallsAtZeroAndAtTheSize() {
        int[] size = {10, 20, 30};
        for (int wall = 0; wall < 6; wall++) {
            RoomEchoes room = new RoomEchoes(10, 20, 30);
            room.source(3, 3, 3);
            room.keeps(wall, 123);
            int[] n = new int[3];
            n[wall / 2] = wall % 2 == 0 ? -1 : 1;
            long behind = wall % 2 == 0 ? 3 : 2 * size[wall / 2] - 3;
            CHECK.due("strength by wall " + wall, room.image(n[0], n[1], n[2], 1), 123000000);
            CHECK.due("distance by wall " + wall, room.image(n[0], n[1], n[2], 0), behind * behind + 18);
            CHECK.due("strength by the other one", room.image(-n[0], -n[1], -n[2], 1), 900000000);
        }
    }

    private static void wallsKeepNineHundredAtFirst() {
        for (int wall = 0; wall < 6; wall++) {
            int[] n = new int[3];
            n[wall / 2] = wall % 2 == 0 ? -1 : 1;
            RoomEchoes room = new RoomEchoes(10, 8, 3);
            CHECK.due("strength by wall " + wall, room.image(n[0], n[1], n[2], 1), 900000000);
            CHECK.due("what wall " + wall + " kept", room.keeps(wall, 0), 900);
        }
    }

    private static void wallsKeepZeroToThousand() {
        for (int wall = 0; wall < 6; wall++) {
            int[] n = new int[3];
            n[wall / 2] = wall % 2 == 0 ? -1 : 1;
            for (int thousandths = 0; thousandths <= 1000; thousandths++) {
                RoomEchoes room = new RoomEchoes(10, 8, 3);
                int kept = thousandths;
                int w = wall;
                String call = "keeps(" + wall + ", " + thousandths + ")";
                CHECK.answers(call, () -> room.keeps(w, kept), 900);
                CHECK.due("strength behind " + call, room.image(n[0], n[1], n[2], 1), kept * 1000000L);
                CHECK.due("what it kept behind " + call, room.keeps(wall, 900), kept);
            }
        }
    }
}
