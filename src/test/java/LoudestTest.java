/** Promise 12: the loudest echo of all, or of those behind one. */
public final class LoudestTest {
    private static final Check CHECK = new Check();

    public static void main(String[] args) {
        ordinaryOnes();
        ofSeveralTheFirst();
        louderThoughLater();
        noneBehind();
        silentOnes();
        wrongOnes();
        CHECK.end();
    }

    private static void ordinaryOnes() {
        RoomEchoes room = Setting.ordinaryRoom();
        CHECK.due("loudest(NONE)", room.loudest(RoomEchoes.NONE), 0);
        CHECK.due("loudest(0)", room.loudest(0), 1);
        CHECK.due("loudest(1), of two the first", room.loudest(1), 2);
        CHECK.due("loudest(2)", room.loudest(2), 3);
        CHECK.due("loudest(498)", room.loudest(498), 499);
        CHECK.due("loudest(499)", room.loudest(499), RoomEchoes.NONE);
    }

    /** Where walls keep all, the eight images in a corner are as loud: each time the next of them. */
    private static void ofSeveralTheFirst() {
        RoomEchoes room = new RoomEchoes(1, 1, 1);
        for (int wall = 0; wall < 6; wall++) {
            room.keeps(wall, 1000);
        }
        for (int k = RoomEchoes.NONE; k < 30; k++) {
            CHECK.due("loudest(" + k + ")", room.loudest(k), k + 1);
        }
        CHECK.due("echo 7 is louder than echo 8", room.echo(7, 2) > room.echo(8, 2) ? 1 : 0, 1);
    }

    /** Behind the last one there is none, whatever there is ahead. */
    private static void noneBehind() {
        for (int keeps : new int[] {0, 900, 1000}) {
            RoomEchoes room = new RoomEchoes(10, 8, 3);
            for (int wall = 0; wall < 6; wall++) {
                room.keeps(wall, keeps);
            }
            CHECK.due("loudest(498)", room.loudest(498), 499);
            CHECK.due("loudest(499)", room.loudest(499), RoomEchoes.NONE);
        }
    }

    /** In the corner eight images are at distance 0; the straight one, which has no hits, is the last. */
    private static void louderThoughLater() {
        RoomEchoes room = new RoomEchoes(10, 10, 10);
        CHECK.due("loudest(NONE)", room.loudest(-1), 7);
        CHECK.due("loudest(6)", room.loudest(6), 7);
        CHECK.due("loudest(2)", room.loudest(2), 7);
        CHECK.due("loudest(7) is behind it", room.loudest(7) > 7 ? 1 : 0, 1);
        room.keeps(0, 1000);
        CHECK.due("loudest(NONE), of two the first", room.loudest(-1), 3);
        CHECK.due("loudest(3)", room.loudest(3), 7);
        room.source(0, 0, 10);
        room.keeps(0, 0);
        CHECK.due("loudest(NONE) is the straight one", room.loudest(-1), room.place(0, 0, 0));
    }

    private static void silentOnes() {
        RoomEchoes room = Setting.ordinaryRoom();
        for (int wall = 0; wall < 6; wall++) {
            room.keeps(wall, 0);
        }
        CHECK.due("loudest(NONE)", room.loudest(-1), 0);
        CHECK.due("loudest(0), all as silent", room.loudest(0), 1);
        CHECK.due("loudest(100), all as silent", room.loudest(100), 101);
        CHECK.due("loudest(498)", room.loudest(498), 499);
        CHECK.due("loudest(499)", room.loudest(499), RoomEchoes.NONE);
    }

    private static void wrongOnes() {
        RoomEchoes room = Setting.ordinaryRoom();
        for (int wrong : new int[] {-2, -3, 500, 501, Integer.MIN_VALUE, Integer.MAX_VALUE}) {
            CHECK.illegal("loudest(" + wrong + ")", () -> room.loudest(wrong));
            CHECK.due("nothing changed by it", room.loudest(1), 2);
        }
    }
}
