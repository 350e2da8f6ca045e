/** Promise 5: an image's distance, strength, loudness and hits. */
public final class ImageTest {
    private static final Check CHECK = new Check();

    public static void main(String[] args) {
        distances();
        strengths();
        roundedAtEachHit();
        loudnesses();
        hits();
        greatestDistance();
        wrongOnes();
        CHECK.end();
    }

    private static void distances() {
        RoomEchoes room = Setting.ordinaryRoom();
        CHECK.due("image(0, 0, 0, 0)", room.image(0, 0, 0, 0), 25);
        CHECK.due("image(1, 0, 0, 0): 17", room.image(1, 0, 0, 0), 109);
        CHECK.due("image(-1, 0, 0, 0): -3", room.image(-1, 0, 0, 0), 109);
        CHECK.due("image(2, 0, 0, 0): 23", room.image(2, 0, 0, 0), 16 * 16 + 9);
        CHECK.due("image(-2, 0, 0, 0): -17", room.image(-2, 0, 0, 0), 24 * 24 + 9);
        CHECK.due("image(-3, 0, 0, 0): -23", room.image(-3, 0, 0, 0), 30 * 30 + 9);
        CHECK.due("image(0, 1, 0, 0): 12", room.image(0, 1, 0, 0), 16 + 121);
        CHECK.due("image(0, 0, 1, 0): 4", room.image(0, 0, 1, 0), 25 + 4);
        CHECK.due("image(0, 0, -1, 0): -2", room.image(0, 0, -1, 0), 25 + 16);
        CHECK.due("image(40, 40, 40, 0)", room.image(40, 40, 40, 0),
                396 * 396 + 323 * 323 + 120 * 120);
        CHECK.due("image(-40, -40, -40, 0)", room.image(-40, -40, -40, 0),
                404 * 404 + 317 * 317 + 120 * 120);
    }

    /** Each wall with its own factor, so that a hit counted for another wall would show. */
    private static void strengths() {
        RoomEchoes room = Setting.ordinaryRoom();
        int[] keeps = {500, 200, 100, 400, 1000, 0};
        for (int wall = 0; wall < 6; wall++) {
            room.keeps(wall, keeps[wall]);
        }
        CHECK.due("image(0, 0, 0, 1)", room.image(0, 0, 0, 1), 1000000000);
        CHECK.due("image(3, 0, 0, 1): one of wall 0, two of 1", room.image(3, 0, 0, 1), 20000000);
        CHECK.due("image(-3, 0, 0, 1): two of wall 0, one of 1", room.image(-3, 0, 0, 1), 50000000);
        CHECK.due("image(2, 0, 0, 1)", room.image(2, 0, 0, 1), 100000000);
        CHECK.due("image(-2, 0, 0, 1)", room.image(-2, 0, 0, 1), 100000000);
        CHECK.due("image(0, 3, 0, 1)", room.image(0, 3, 0, 1), 16000000);
        CHECK.due("image(0, -3, 0, 1)", room.image(0, -3, 0, 1), 4000000);
        CHECK.due("image(0, 0, -1, 1)", room.image(0, 0, -1, 1), 1000000000);
        CHECK.due("image(0, 0, 1, 1)", room.image(0, 0, 1, 1), 0);
        CHECK.due("image(0, 0, -2, 1)", room.image(0, 0, -2, 1), 0);
    }

    private static void roundedAtEachHit() {
        RoomEchoes room = Setting.ordinaryRoom();
        CHECK.due("image(2, -3, 5, 1)", room.image(2, -3, 5, 1), 348678440);
        CHECK.due("image(40, 40, 40, 1)", room.image(40, 40, 40, 1), 3225);
        room.keeps(0, 7);
        room.keeps(1, 999);
        // With wall 1 first it would be 341, with the walls by turns 340.
        CHECK.due("image(7, 0, 0, 1)", room.image(7, 0, 0, 1), 339);
        room.keeps(0, 450);
        CHECK.due("image(-7, 0, 0, 1)", room.image(-7, 0, 0, 1), 40883352);
    }

    private static void loudnesses() {
        RoomEchoes room = Setting.ordinaryRoom();
        CHECK.due("image(0, 0, 0, 2)", room.image(0, 0, 0, 2), 1000000000 / 26);
        CHECK.due("image(-1, 0, 0, 2)", room.image(-1, 0, 0, 2), 900000000 / 110);
        CHECK.due("image(40, 40, 40, 2)", room.image(40, 40, 40, 2), 0);
        room.listener(3, 4, 2);
        CHECK.due("image(0, 0, 0, 2) at the listener", room.image(0, 0, 0, 2), 1000000000);
    }

    private static void hits() {
        RoomEchoes room = Setting.ordinaryRoom();
        CHECK.due("image(0, 0, 0, 3)", room.image(0, 0, 0, 3), 0);
        CHECK.due("image(2, -3, 5, 3)", room.image(2, -3, 5, 3), 10);
        CHECK.due("image(-1, 1, -1, 3)", room.image(-1, 1, -1, 3), 3);
        CHECK.due("image(40, 40, 40, 3)", room.image(40, 40, 40, 3), 120);
        CHECK.due("image(-40, -40, -40, 3)", room.image(-40, -40, -40, 3), 120);
    }

    private static void greatestDistance() {
        RoomEchoes room = new RoomEchoes(1000, 1000, 1000);
        room.source(1000, 1000, 1000);
        CHECK.due("image(40, 40, 40, 0)", room.image(40, 40, 40, 0), 3L * 41000 * 41000);
        room.keeps(1, 1000);
        room.keeps(3, 1000);
        room.keeps(5, 1000);
        room.keeps(0, 1000);
        room.keeps(2, 1000);
        room.keeps(4, 1000);
        CHECK.due("image(40, 40, 40, 1)", room.image(40, 40, 40, 1), 1000000000);
        CHECK.due("image(40, 40, 40, 2)", room.image(40, 40, 40, 2), 0);
    }

    private static void wrongOnes() {
        RoomEchoes room = Setting.ordinaryRoom();
        int[][] wrong = {{-41, 0, 0, 0}, {41, 0, 0, 0}, {0, -41, 0, 0}, {0, 41, 0, 0},
            {0, 0, -41, 0}, {0, 0, 41, 0}, {0, 0, 0, -1}, {0, 0, 0, 4}, {0, 0, 0, 5}, {0, 0, 0, 6},
            {Integer.MIN_VALUE, 0, 0, 3}, {0, Integer.MAX_VALUE, 0, 2}, {0, 0, Integer.MIN_VALUE, 1},
            {0, 0, 0, Integer.MAX_VALUE}, {0, 0, 0, Integer.MIN_VALUE}};
        for (int[] w : wrong) {
            String call = "image(" + w[0] + ", " + w[1] + ", " + w[2] + ", " + w[3] + ")";
            CHECK.illegal(call, () -> room.image(w[0], w[1], w[2], w[3]));
            CHECK.due("nothing changed by " + call, room.image(0, 0, 0, 0), 25);
        }
    }
}
