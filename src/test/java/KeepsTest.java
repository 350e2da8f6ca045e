/** Promise 4: what a wall keeps, answered with what it kept. */
public final class KeepsTest {
    private static final Check CHECK = new Check();

    public static void main(String[] args) {
        answersWhatItKept();
        answersWhatItKeptLast();
        eachWallTakesItsOwn();
        loudnessFollows();
        wrongOnesChangeNothing();
        CHECK.end();
    }

    private static void answersWhatItKept() {
        RoomEchoes room = new RoomEchoes(10, 8, 3);
        for (int wall = 0; wall < 6; wall++) {
            CHECK.due("keeps(" + wall + ", 0)", room.keeps(wall, 0), 900);
            CHECK.due("keeps(" + wall + ", 1000)", room.keeps(wall, 1000), 0);
            CHECK.due("keeps(" + wall + ", " + wall + ")", room.keeps(wall, wall), 1000);
        }
        for (int wall = 0; wall < 6; wall++) {
            CHECK.due("keeps(" + wall + ", 1) again", room.keeps(wall, 1), wall);
        }
    }

    /** "what it kept" is what was last taken of that wall: not of another, not what was refused. */
    private static void answersWhatItKeptLast() {
        RoomEchoes room = new RoomEchoes(10, 8, 3);
        CHECK.due("keeps(2, 300)", room.keeps(2, 300), 900);
        CHECK.due("keeps(2, 300) once more", room.keeps(2, 300), 300);
        CHECK.due("keeps(3, 400)", room.keeps(3, 400), 900);
        CHECK.due("keeps(2, 900)", room.keeps(2, 900), 300);
        CHECK.illegal("keeps(2, 1001)", () -> room.keeps(2, 1001));
        CHECK.illegal("keeps(2, -1)", () -> room.keeps(2, -1));
        CHECK.due("keeps(2, 0) behind refused ones", room.keeps(2, 0), 900);
        CHECK.due("keeps(2, 1000)", room.keeps(2, 1000), 0);
        CHECK.due("keeps(2, 1)", room.keeps(2, 1), 1000);
        CHECK.due("keeps(3, 1)", room.keeps(3, 1), 400);
    }

    /** The images with one hit alone: -1 hits the wall at 0, 1 the wall at the size. */
    private static void eachWallTakesItsOwn() {
        RoomEchoes room = new RoomEchoes(10, 8, 3);
        for (int wall = 0; wall < 6; wall++) {
            room.keeps(wall, 100 + wall);
        }
        CHECK.due("wall 0", room.image(-1, 0, 0, 1), 100000000);
        CHECK.due("wall 1", room.image(1, 0, 0, 1), 101000000);
        CHECK.due("wall 2", room.image(0, -1, 0, 1), 102000000);
        CHECK.due("wall 3", room.image(0, 1, 0, 1), 103000000);
        CHECK.due("wall 4", room.image(0, 0, -1, 1), 104000000);
        CHECK.due("wall 5", room.image(0, 0, 1, 1), 105000000);
    }

    private static void loudnessFollows() {
        RoomEchoes room = new RoomEchoes(10, 8, 3);
        CHECK.due("loud(0, 0) of three hits at 900", room.loud(0, 0), 729000000);
        room.keeps(4, 0);
        CHECK.due("loud(0, 0) with a wall that keeps nothing", room.loud(0, 0), 0);
        room.keeps(4, 1000);
        CHECK.due("loud(0, 0) with a wall that keeps all", room.loud(0, 0), 810000000);
    }

    private static void wrongOnesChangeNothing() {
        int[][] wrong = {{-1, 500}, {6, 500}, {Integer.MIN_VALUE, 0}, {Integer.MAX_VALUE, 0},
            {0, -1}, {0, 1001}, {5, -1}, {5, 1001}, {3, Integer.MIN_VALUE}, {3, Integer.MAX_VALUE},
            {-1, -1}, {6, 1001}};
        for (int[] pair : wrong) {
            RoomEchoes room = new RoomEchoes(10, 8, 3);
            long loud = room.loud(0, 499);
            String call = "keeps(" + pair[0] + ", " + pair[1] + ")";
            CHECK.illegal(call, () -> room.keeps(pair[0], pair[1]));
            CHECK.due("no loudness changed by " + call, room.loud(0, 499), loud);
            for (int wall = 0; wall < 6; wall++) {
                CHECK.due("wall " + wall + " unchanged by " + call, room.keeps(wall, 0), 900);
            }
        }
    }
}
