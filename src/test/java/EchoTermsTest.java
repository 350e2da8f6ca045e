/** Terms: "ECHOES 0 .. 499 are the images by distances, the least first; of the same by a, then b, then c". */
public final class EchoTermsTest {
    private static final Check CHECK = new Check();

    public static void main(String[] args) {
        leastDistanceFirst();
        distanceAheadOfNumbers();
        sameDistanceByFirstNumber();
        sameDistanceByFirstThenSecondNumber();
        sameDistanceByFirstAndSecondThenThirdNumber();
        zeroToFourHundredNinetyNine();
        everyImageOnce();
        CHECK.end();
    }

    private static RoomEchoes middleOfACube() {
        RoomEchoes room = new RoomEchoes(2, 2, 2);
        room.source(1, 1, 1);
        room.listener(1, 1, 1);
        return room;
    }

    private static void leastDistanceFirst() {
        for (int[] size : new int[][] {{10, 8, 3}, {1, 1, 1}, {1000, 999, 998}, {1, 1000, 1}, {5, 5, 5}}) {
            RoomEchoes room = new RoomEchoes(size[0], size[1], size[2]);
            room.source(size[0] / 2, 0, size[2]);
            room.listener(size[0], size[1] / 3, 1);
            long last = -1;
            for (int k = 0; k < 500; k++) {
                long distance = room.echo(k, 0);
                CHECK.due("echo " + k + " is no nearer than the one ahead", distance >= last ? 1 : 0, 1);
                last = distance;
            }
        }
    }

    /** Near wall 1 the image behind it comes first, though its number is greater. */
    private static void distanceAheadOfNumbers() {
        RoomEchoes room = new RoomEchoes(10, 10, 10);
        room.source(5, 5, 5);
        room.listener(6, 5, 5);
        isImage(room, 0, 0, 0, 0);
        isImage(room, 1, 1, 0, 0);
        room.listener(5, 6, 5);
        isImage(room, 1, 0, 1, 0);
        room.listener(5, 5, 6);
        isImage(room, 1, 0, 0, 1);
    }

    private static void isImage(RoomEchoes room, int k, int a, int b, int c) {
        CHECK.due("a of echo " + k, room.echo(k, 4), a);
        CHECK.due("b of echo " + k, room.echo(k, 5), b);
        CHECK.due("c of echo " + k, room.echo(k, 6), c);
        CHECK.due("place of echo " + k, room.place(a, b, c), k);
    }

    /** Both are at distance 4, 12 or 8; the second has the lesser b, or the lesser c. */
    private static void sameDistanceByFirstNumber() {
        RoomEchoes room = middleOfACube();
        isImage(room, 1, -1, 0, 0);
        isImage(room, 2, 0, -1, 0);
        isImage(room, 10, -1, 1, 0);
        isImage(room, 11, 0, -1, -1);
        isImage(room, 22, -1, 1, 1);
        isImage(room, 23, 1, -1, -1);
    }

    /** Both have the same a; the second has the lesser c. */
    private static void sameDistanceByFirstThenSecondNumber() {
        RoomEchoes room = middleOfACube();
        isImage(room, 2, 0, -1, 0);
        isImage(room, 3, 0, 0, -1);
        isImage(room, 20, -1, -1, 1);
        isImage(room, 21, -1, 1, -1);
        isImage(room, 24, 1, -1, 1);
        isImage(room, 25, 1, 1, -1);
    }

    /** Both have the same a and b. */
    private static void sameDistanceByFirstAndSecondThenThirdNumber() {
        RoomEchoes room = middleOfACube();
        isImage(room, 3, 0, 0, -1);
        isImage(room, 4, 0, 0, 1);
        isImage(room, 8, -1, 0, -1);
        isImage(room, 9, -1, 0, 1);
        isImage(room, 19, -1, -1, -1);
        isImage(room, 20, -1, -1, 1);
    }

    private static void zeroToFourHundredNinetyNine() {
        RoomEchoes room = middleOfACube();
        isImage(room, 0, 0, 0, 0);
        isImage(room, 499, 0, 0, -5);
        for (int wrong : new int[] {-1, 500, Integer.MIN_VALUE, Integer.MAX_VALUE}) {
            for (int what = 0; what <= 6; what++) {
                int told = what;
                CHECK.illegal("echo(" + wrong + ", " + what + ")", () -> room.echo(wrong, told));
            }
        }
    }

    /** Of each echo's numbers the place is that echo, so no image is there twice. */
    private static void everyImageOnce() {
        RoomEchoes room = Setting.ordinaryRoom();
        RoomEchoes other = Setting.ordinaryRoom();
        for (int k = 0; k < 500; k += 3) {
            int a = (int) room.echo(k, 4);
            int b = (int) room.echo(k, 5);
            int c = (int) room.echo(k, 6);
            CHECK.due("place of echo " + k, other.place(a, b, c), k);
        }
    }
}
