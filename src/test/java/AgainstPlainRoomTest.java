import java.util.ArrayList;
import java.util.Arrays;
import java.util.List;
import java.util.Random;

/** All promises against the document's terms worked out the slow way, room by room. */
public final class AgainstPlainRoomTest {
    private static final Check CHECK = new Check();
    private static final Random RANDOM = new Random(20261115);

    public static void main(String[] args) {
        for (Setting setting : settings()) {
            PlainRoom plain = new PlainRoom(setting);
            echoes(setting, plain);
            images(setting, plain);
            places(setting, plain);
            howMuch(setting, plain);
        }
        CHECK.end();
    }

    private static List<Setting> settings() {
        List<Setting> settings = new ArrayList<>(List.of(
                Setting.of(1, 1, 1),
                Setting.of(1, 1, 1).source(1, 0, 1).listener(0, 1, 1),
                Setting.of(1000, 1000, 1000),
                Setting.of(1000, 1000, 1000).source(1000, 0, 1000).listener(0, 1000, 1),
                Setting.of(1000, 1000, 1000).source(500, 500, 500).listener(500, 500, 500),
                Setting.of(1, 1000, 1000).source(1, 500, 1000).keeps(1000, 999, 0, 500, 1, 1000),
                Setting.of(1000, 1, 1000).source(1000, 1, 0).keeps(0, 0, 0, 0, 0, 0),
                Setting.of(1000, 1000, 1).listener(7, 999, 1).keeps(1000, 1000, 1000, 1000, 1000, 1000),
                Setting.of(1, 1000, 1).source(0, 1000, 1).listener(1, 0, 0),
                Setting.of(1, 1, 1000).source(0, 0, 500).listener(0, 0, 500),
                Setting.of(1, 1, 1000).source(1, 0, 500).listener(0, 1, 499),
                Setting.of(1000, 1, 1).source(500, 0, 0).listener(500, 0, 1),
                Setting.of(1, 1000, 1).source(0, 500, 0).listener(1, 500, 0),
                Setting.of(1, 2, 40).source(0, 1, 39).listener(1, 1, 40),
                Setting.of(2, 2, 2).source(1, 1, 1).listener(1, 1, 1),
                Setting.of(10, 8, 3).source(0, 0, 0).listener(10, 8, 3).keeps(0, 0, 0, 0, 0, 0)));
        for (int greatest : new int[] {1, 2, 3, 5, 10, 30, 100, 1000}) {
            settings.add(Setting.random(RANDOM, greatest));
            settings.add(Setting.random(RANDOM, greatest));
        }
        return settings;
    }

    private static String name(Setting setting, String call) {
        return Arrays.toString(setting.size()) + Arrays.toString(setting.source())
                + Arrays.toString(setting.listener())
                + Arrays.toString(setting.keeps()) + " " + call;
    }

    private static void echoes(Setting setting, PlainRoom plain) {
        for (int what = 0; what <= 6; what++) {
            RoomEchoes room = setting.make();
            for (int k = 0; k < 500; k++) {
                String call = "echo(" + k + ", " + what + ")";
                CHECK.due(name(setting, call), room.echo(k, what), plain.echo(k, what));
            }
        }
    }

    private static int number() {
        int[] edges = {-40, -39, -2, -1, 0, 1, 2, 39, 40};
        return RANDOM.nextInt(3) == 0 ? edges[RANDOM.nextInt(edges.length)] : RANDOM.nextInt(81) - 40;
    }

    private static void images(Setting setting, PlainRoom plain) {
        RoomEchoes room = setting.make();
        for (int i = 0; i < 120; i++) {
            int a = number();
            int b = number();
            int c = number();
            for (int what = 0; what <= 3; what++) {
                String call = "image(" + a + ", " + b + ", " + c + ", " + what + ")";
                CHECK.due(name(setting, call), room.image(a, b, c, what), plain.image(a, b, c, what));
            }
        }
    }

    private static void places(Setting setting, PlainRoom plain) {
        RoomEchoes room = setting.make();
        for (int i = 0; i < 500; i++) {
            int spread = 1 + RANDOM.nextInt(12);
            int a = RANDOM.nextInt(2 * spread + 1) - spread;
            int b = RANDOM.nextInt(2 * spread + 1) - spread;
            int c = i % 4 == 0 ? number() : RANDOM.nextInt(2 * spread + 1) - spread;
            String call = "place(" + a + ", " + b + ", " + c + ")";
            CHECK.due(name(setting, call), room.place(a, b, c), plain.place(a, b, c));
        }
    }

    private static void howMuch(Setting setting, PlainRoom plain) {
        RoomEchoes room = setting.make();
        for (int i = 0; i < 40; i++) {
            int k = RANDOM.nextInt(500);
            long distance = Math.max(0, plain.echo(k, 0) + RANDOM.nextInt(3) - 1);
            CHECK.due(name(setting, "until(" + distance + ")"), room.until(distance), plain.until(distance));
            CHECK.due(name(setting, "early(" + distance + ", 0)"), room.early(distance, 0), plain.early(distance, 0));
            CHECK.due(name(setting, "early(" + distance + ", 1)"), room.early(distance, 1), plain.early(distance, 1));
            int to = k + RANDOM.nextInt(500 - k);
            CHECK.due(name(setting, "loud(" + k + ", " + to + ")"), room.loud(k, to), plain.loud(k, to));
            CHECK.due(name(setting, "loudest(" + k + ")"), room.loudest(k), plain.loudest(k));
            int thousandths = RANDOM.nextInt(1001);
            CHECK.due(name(setting, "enough(" + thousandths + ")"), room.enough(thousandths), plain.enough(thousandths));
        }
        CHECK.due(name(setting, "enough(0)"), room.enough(0), plain.enough(0));
        CHECK.due(name(setting, "enough(1000)"), room.enough(1000), plain.enough(1000));
        CHECK.due(name(setting, "loudest(-1)"), room.loudest(-1), plain.loudest(-1));
        CHECK.due(name(setting, "loud(0, 499)"), room.loud(0, 499), plain.loud(0, 499));
    }
}
