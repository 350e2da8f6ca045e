/** Terms: an echo's strength, taken hit by hit and wall by wall, and its loudness. */
public final class StrengthTermsTest {
    private static final Check CHECK = new Check();

    public static void main(String[] args) {
        wholeWithoutHits();
        roundedDownAtEachHit();
        roundedDownNotToTheNearest();
        wallsInTurn();
        keptWholeOrNotAtAll();
        loudnessIsByOneAndDistance();
        loudnessRoundedDown();
        CHECK.end();
    }

    private static RoomEchoes roomThatKeeps(int... thousandths) {
        RoomEchoes room = new RoomEchoes(10, 8, 3);
        for (int wall = 0; wall < 6; wall++) {
            room.keeps(wall, thousandths[wall]);
        }
        return room;
    }

    private static void wholeWithoutHits() {
        CHECK.due("without hits", roomThatKeeps(0, 0, 0, 0, 0, 0).image(0, 0, 0, 1), 1000000000);
        CHECK.due("without hits", roomThatKeeps(1, 2, 3, 4, 5, 6).image(0, 0, 0, 1), 1000000000);
    }

    /** Rounded down once, at the end, it would be the number behind each of them. */
    private static void roundedDownAtEachHit() {
        RoomEchoes room = roomThatKeeps(995, 995, 995, 995, 995, 995);
        CHECK.due("nine hits on axis 0 (955889578)", room.image(9, 0, 0, 1), 955889575);
        CHECK.due("nine hits on axis 1 (955889578)", room.image(0, -9, 0, 1), 955889575);
        CHECK.due("nine hits on axis 2 (955889578)", room.image(0, 0, 9, 1), 955889575);
        CHECK.due("nine hits on three axes (955889578)", room.image(3, -3, 3, 1), 955889575);
        CHECK.due("seven hits at 501 (7922533)",
                roomThatKeeps(501, 501, 501, 501, 501, 501).image(7, 0, 0, 1), 7922532);
    }

    /** 999 * 999 * 999 * 999 is 996005996001, and that by 1000 is 996005996.001. */
    private static void roundedDownNotToTheNearest() {
        RoomEchoes room = roomThatKeeps(999, 999, 997, 997, 1, 1);
        CHECK.due("four hits at 999", room.image(4, 0, 0, 1), 996005996);
        CHECK.due("four hits at 997: 988053892.081", room.image(0, 4, 0, 1), 988053892);
        CHECK.due("five hits at 999: 995009990.004", room.image(5, 0, 0, 1), 995009990);
        CHECK.due("five hits at 997: 985089730.324", room.image(0, 5, 0, 1), 985089730);
        CHECK.due("six hits at 997: 982134460.81", room.image(0, 6, 0, 1), 982134460);
        CHECK.due("three hits at 1", room.image(0, 0, 3, 1), 1);
        CHECK.due("four hits at 1: 0.001", room.image(0, 0, 4, 1), 0);
        CHECK.due("three hits at 1, one at 999: 0.999",
                roomThatKeeps(900, 1, 999, 1, 900, 900).image(1, 3, 0, 1), 0);
    }

    /** With the two walls that take in the other order it would be the number behind each of them. */
    private static void wallsInTurn() {
        CHECK.due("wall 0, then 1 (277700)",
                roomThatKeeps(133, 961, 1000, 1000, 1000, 1000).image(-7, 0, 0, 1), 277698);
        CHECK.due("wall 1, then 2 (162854802)",
                roomThatKeeps(1000, 689, 922, 1000, 1000, 1000).image(7, -7, 0, 1), 162854800);
        CHECK.due("wall 2, then 3 (25957026)",
                roomThatKeeps(1000, 1000, 305, 978, 1000, 1000).image(0, 7, 0, 1), 25957024);
        CHECK.due("wall 3, then 4 (304041287)",
                roomThatKeeps(1000, 1000, 1000, 954, 716, 1000).image(0, 7, 6, 1), 304041289);
        CHECK.due("wall 4, then 5 (313819912)",
                roomThatKeeps(1000, 1000, 1000, 1000, 940, 738).image(0, 0, -7, 1), 313819914);
    }

    private static void keptWholeOrNotAtAll() {
        RoomEchoes all = roomThatKeeps(1000, 1000, 1000, 1000, 1000, 1000);
        CHECK.due("120 hits at 1000", all.image(40, -40, 40, 1), 1000000000);
        RoomEchoes none = roomThatKeeps(0, 1000, 1000, 1000, 1000, 1000);
        CHECK.due("one hit at 0", none.image(-1, 0, 0, 1), 0);
        CHECK.due("no hit at 0", none.image(1, 40, 40, 1), 1000000000);
        CHECK.due("twenty hits at 0", none.image(40, 40, 40, 1), 0);
    }

    private static void loudnessIsByOneAndDistance() {
        RoomEchoes room = roomThatKeeps(1000, 1000, 1000, 1000, 1000, 1000);
        CHECK.due("at distance 0", room.image(0, 0, 0, 2), 1000000000);
        room.listener(1, 0, 0);
        CHECK.due("at distance 1", room.image(0, 0, 0, 2), 500000000);
        room.listener(0, 0, 3);
        CHECK.due("at distance 9", room.image(0, 0, 0, 2), 100000000);
        CHECK.due("of echo at distance 9", room.echo(0, 2), 100000000);
    }

    private static void loudnessRoundedDown() {
        RoomEchoes room = roomThatKeeps(1000, 1000, 1000, 1000, 1000, 1000);
        room.listener(1, 1, 0);
        CHECK.due("333333333.33", room.image(0, 0, 0, 2), 333333333);
        room.listener(2, 1, 0);
        CHECK.due("166666666.67", room.image(0, 0, 0, 2), 166666666);
        CHECK.due("166666666.67 of echo 0", room.echo(0, 2), 166666666);
        CHECK.due("166666666.67 summed twice", room.loud(0, 1), 2 * 166666666);
        room.keeps(0, 1);
        CHECK.due("1000000 by 6, rounded down", room.image(-1, 0, 0, 2), 166666);
        RoomEchoes great = new RoomEchoes(1000, 1000, 1000);
        CHECK.due("rounded down to 0", great.image(40, 40, 40, 2), 0);
        great.listener(1000, 1000, 1000);
        CHECK.due("333.33", great.image(0, 0, 0, 2), 333);
    }
}
