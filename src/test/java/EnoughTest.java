/** Promise 11: the least k so that echoes 0 to k have so much of all loudness. */
public final class EnoughTest {
    private static final Check CHECK = new Check();

    public static void main(String[] args) {
        ordinaryOnes();
        justAsMuch();
        nothingBehindTheStraightWay();
        wrongOnes();
        CHECK.end();
    }

    private static void ordinaryOnes() {
        RoomEchoes room = Setting.ordinaryRoom();
        int[][] due = {{0, 0}, {1, 0}, {45, 0}, {46, 1}, {500, 60}, {900, 339}, {999, 498}, {1000, 499}};
        for (int[] pair : due) {
            CHECK.due("enough(" + pair[0] + ")", room.enough(pair[0]), pair[1]);
        }
        room.keeps(0, 0);
        CHECK.due("enough(1000) without wall 0", room.enough(1000), 498);
        room.listener(3, 4, 2);
        CHECK.due("enough(1) at the source", room.enough(1), 0);
    }

    /** With the source in wall 5 the image 0, 0, 1 is where it is itself: half of all each. */
    private static void justAsMuch() {
        RoomEchoes room = new RoomEchoes(4, 2, 2);
        room.source(2, 1, 2);
        room.listener(2, 1, 1);
        for (int wall = 0; wall < 5; wall++) {
            room.keeps(wall, 0);
        }
        room.keeps(5, 1000);
        CHECK.due("loud(0, 1)", room.loud(0, 1), 1000000000);
        CHECK.due("loud(0, 499)", room.loud(0, 499), 1000000000);
        CHECK.due("enough(499)", room.enough(499), 0);
        CHECK.due("enough(500)", room.enough(500), 0);
        CHECK.due("enough(501)", room.enough(501), 1);
        CHECK.due("enough(1000)", room.enough(1000), 1);
    }

    private static void nothingBehindTheStraightWay() {
        RoomEchoes room = Setting.ordinaryRoom();
        for (int wall = 0; wall < 6; wall++) {
            room.keeps(wall, 0);
        }
        CHECK.due("loud(1, 499)", room.loud(1, 499), 0);
        CHECK.due("enough(0)", room.enough(0), 0);
        CHECK.due("enough(1000)", room.enough(1000), 0);
        // In the corner opposite the straight way comes behind others that are as long and silent.
        room.source(0, 0, 0);
        room.listener(10, 8, 3);
        int straight = room.place(0, 0, 0);
        CHECK.due("place(0, 0, 0) of 64 as long", straight, 16 + 4 + 1);
        CHECK.due("enough(0) without any", room.enough(0), 0);
        CHECK.due("enough(1)", room.enough(1), straight);
        CHECK.due("enough(1000)", room.enough(1000), straight);
    }

    private static void wrongOnes() {
        RoomEchoes room = Setting.ordinaryRoom();
        for (int wrong : new int[] {-1, 1001, Integer.MIN_VALUE, Integer.MAX_VALUE}) {
            CHECK.illegal("enough(" + wrong + ")", () -> room.enough(wrong));
            CHECK.due("nothing changed by it", room.enough(500), 60);
        }
    }
}
