/** Promise 11: the least k so that echoes 0 to k have so much of all loudness. */
public final class EnoughTest {
    private static final Check CHECK = new Check();

    public static void main(String[] args) {
        ordinaryOnes();
        theLeast();
        justAsMuch();
        justTooLittle();
        allAboveEveryInt();
        nothingBehindTheStraightWay();
        wrongOnes();
        CHECK.end();
    }

    private static void ordinaryOnes() {
        RoomEchoes room = Setting.ordinaryRoom();
        int[][] due = {{0, 0}, {1, 0}, {45, 0}, {46, 1}, {500, 60}, {900, 339}, {999, 498}, {1000, 499}};
        for (int[] pair : due) {
            CHECK.due("enough(" + pair[0] + ")", room.enough(pair[0]), pair[1]);
        }
        room.keeps(0, 0);
        CHECK.due("enough(1000) without wall 0", room.enough(1000), 498);
        room.listener(3, 4, 2);
        CHECK.due("enough(1) at the source", room.enough(1), 0);
    }

    /** "The least k": echoes 0 to k have as much, echoes 0 to k - 1 do not. */
    private static void theLeast() {
        RoomEchoes room = Setting.ordinaryRoom();
        long all = room.loud(0, 499);
        for (int thousandths = 1; thousandths <= 1000; thousandths += 9) {
            int k = room.enough(thousandths);
            CHECK.due("echoes 0 to " + k + " have " + thousandths,
                    room.loud(0, k) * 1000 >= all * thousandths ? 1 : 0, 1);
            CHECK.due("echoes 0 to " + (k - 1) + " do not",
                    k == 0 || room.loud(0, k - 1) * 1000 < all * thousandths ? 1 : 0, 1);
        }
    }

    /** In the corner opposite wall 0's image has 332, the straight way 333: 500 are 332.5 of 665. */
    private static void justTooLittle() {
        RoomEchoes room = new RoomEchoes(1000, 1000, 1000);
        room.listener(1000, 1000, 1000);
        room.keeps(0, 997);
        for (int wall = 1; wall < 6; wall++) {
            room.keeps(wall, 0);
        }
        int byWall = room.place(-1, 0, 0);
        int straight = room.place(0, 0, 0);
        CHECK.due("loud up to the image", room.loud(0, byWall), 332);
        CHECK.due("loud(0, 499)", room.loud(0, 499), 665);
        CHECK.due("enough(1)", room.enough(1), byWall);
        CHECK.due("enough(499)", room.enough(499), byWall);
        CHECK.due("enough(500)", room.enough(500), straight);
        CHECK.due("enough(1000)", room.enough(1000), straight);
    }

    private static void allAboveEveryInt() {
        RoomEchoes room = new RoomEchoes(1, 1, 1);
        for (int wall = 0; wall < 6; wall++) {
            room.keeps(wall, 1000);
        }
        int[][] due = {{0, 0}, {1, 0}, {21, 0}, {22, 1}, {100, 4}, {500, 108}, {501, 109}, {999, 498}, {1000, 499}};
        for (int[] pair : due) {
            CHECK.due("enough(" + pair[0] + ")", room.enough(pair[0]), pair[1]);
        }
    }

    /** With the source in wall 5 the image 0, 0, 1 is where it is itself: half of all each. */
    private static void justAsMuch() {
        RoomEchoes room = new RoomEchoes(4, 2, 2);
        room.source(2, 1, 2);
        room.listener(2, 1, 1);
        for (int wall = 0; wall < 5; wall++) {
            room.keeps(wall, 0);
        }
        room.keeps(5, 1000);
        CHECK.due("loud(0, 1)", room.loud(0, 1), 1000000000);
        CHECK.due("loud(0, 499)", room.loud(0, 499), 1000000000);
        CHECK.due("enough(499)", room.enough(499), 0);
        CHECK.due("enough(500)", room.enough(500), 0);
        CHECK.due("enough(501)", room.enough(501), 1);
        CHECK.due("enough(1000)", room.enough(1000), 1);
    }

    private static void nothingBehindTheStraightWay() {
        RoomEchoes room = Setting.ordinaryRoom();
        for (int wall = 0; wall < 6; wall++) {
            room.keeps(wall, 0);
        }
        CHECK.due("loud(1, 499)", room.loud(1, 499), 0);
        CHECK.due("enough(0)", room.enough(0), 0);
        CHECK.due("enough(1000)", room.enough(1000), 0);
        // In the corner opposite the straight way comes behind others that are as long and silent.
        room.source(0, 0, 0);
        room.listener(10, 8, 3);
        int straight = room.place(0, 0, 0);
        CHECK.due("place(0, 0, 0) of 64 as long", straight, 16 + 4 + 1);
        CHECK.due("enough(0) without any", room.enough(0), 0);
        CHECK.due("enough(1)", room.enough(1), straight);
        CHECK.due("enough(1000)", room.enough(1000), straight);
    }

    private static void wrongOnes() {
        RoomEchoes room = Setting.ordinaryRoom();
        for (int wrong : new int[] {-1, -2, 1001, 1002, Integer.MIN_VALUE, Integer.MAX_VALUE}) {
            CHECK.illegal("enough(" + wrong + ")", () -> room.enough(wrong));
            CHECK.due("nothing changed by it", room.enough(500), 60);
        }
    }
}
