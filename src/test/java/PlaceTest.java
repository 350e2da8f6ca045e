/** Promise 7: which echo an image is. */
public final class PlaceTest {
    private static final Check CHECK = new Check();

    public static void main(String[] args) {
        RoomEchoes room = new RoomEchoes(2, 2, 2);
        room.source(1, 1, 1);
        room.listener(1, 1, 1);
        CHECK.due("place(0, 0, 0)", room.place(0, 0, 0), 0);
        CHECK.due("place(-1, 0, 0)", room.place(-1, 0, 0), 1);
        CHECK.due("place(0, 0, 1)", room.place(0, 0, 1), 4);
        CHECK.due("place(1, 0, 0)", room.place(1, 0, 0), 6);
        CHECK.due("place(1, 1, 1)", room.place(1, 1, 1), 26);
        CHECK.due("place(40, 40, 40)", room.place(40, 40, 40), RoomEchoes.NONE);
        CHECK.due("place(-40, -40, -40)", room.place(-40, -40, -40), RoomEchoes.NONE);
        CHECK.due("place(0, 0, 40)", room.place(0, 0, 40), RoomEchoes.NONE);
        followsThePoints();
        lastAndNextBehind();
        farthestNumbersInAThinRoom();
        wrongOnes();
        CHECK.end();
    }

    private static void followsThePoints() {
        RoomEchoes room = new RoomEchoes(10, 10, 10);
        room.source(5, 5, 5);
        room.listener(1, 5, 5);
        CHECK.due("place(-1, 0, 0) near wall 0", room.place(-1, 0, 0), 1);
        room.listener(9, 5, 5);
        CHECK.due("place(1, 0, 0) near wall 1", room.place(1, 0, 0), 1);
    }

    /** 30 images are at distance 100 from a cube's middle: the echoes end amid them. */
    private static void lastAndNextBehind() {
        RoomEchoes room = new RoomEchoes(2, 2, 2);
        room.source(1, 1, 1);
        room.listener(1, 1, 1);
        CHECK.due("image(0, 0, -5, 0)", room.image(0, 0, -5, 0), 100);
        CHECK.due("image(0, 0, 5, 0)", room.image(0, 0, 5, 0), 100);
        CHECK.due("place(-5, 0, 0)", room.place(-5, 0, 0), 485);
        CHECK.due("place(0, 0, -5)", room.place(0, 0, -5), 499);
        CHECK.due("place(0, 0, 5)", room.place(0, 0, 5), RoomEchoes.NONE);
    }

    private static void farthestNumbersInAThinRoom() {
        RoomEchoes room = new RoomEchoes(1, 1000, 1000);
        room.source(0, 500, 500);
        room.listener(0, 500, 500);
        CHECK.due("place(40, 0, 0)", room.place(40, 0, 0), 80);
        CHECK.due("place(39, 0, 0)", room.place(39, 0, 0), 79);
        CHECK.due("place(-40, 0, 0)", room.place(-40, 0, 0), 78);
    }

    private static void wrongOnes() {
        RoomEchoes room = new RoomEchoes(10, 8, 3);
        int[][] wrong = {{-41, 0, 0}, {41, 0, 0}, {0, -41, 0}, {0, 41, 0}, {0, 0, -41}, {0, 0, 41},
            {Integer.MIN_VALUE, 0, 0}, {0, Integer.MAX_VALUE, 0}, {0, 0, Integer.MIN_VALUE},
            {0, 0, 88}, {0, 128, 0}};
        for (int[] w : wrong) {
            String call = "place(" + w[0] + ", " + w[1] + ", " + w[2] + ")";
            CHECK.illegal(call, () -> room.place(w[0], w[1], w[2]));
            CHECK.due("nothing changed by " + call, room.place(-1, -1, -1), 0);
        }
    }
}
