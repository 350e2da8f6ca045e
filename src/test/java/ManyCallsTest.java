import java.util.Random;

/** Answers do not depend on what an object was asked or set before, nor on calls that threw. */
public final class ManyCallsTest {
    private static final Check CHECK = new Check();
    private static final Random RANDOM = new Random(7);

    public static void main(String[] args) {
        for (int run = 0; run < 20; run++) {
            oneObjectAgainstNewOnes(1 + RANDOM.nextInt(run < 10 ? 6 : 1000));
        }
        CHECK.end();
    }

    /** Each round: one thing set, one wrong call, one answer asked; 3 calls, below 512 in all. */
    private static void oneObjectAgainstNewOnes(int greatest) {
        Setting setting = Setting.of(1 + RANDOM.nextInt(greatest), 1 + RANDOM.nextInt(greatest),
                1 + RANDOM.nextInt(greatest));
        RoomEchoes room = setting.make();
        for (int round = 0; round < 160; round++) {
            setting = setOneThing(room, setting);
            wrongCall(room, setting);
            int kind = RANDOM.nextInt(8);
            int k = RANDOM.nextInt(500);
            CHECK.due("round " + round + " question " + kind + " of " + k, ask(room, kind, k),
                    ask(setting.make(), kind, k));
        }
    }

    private static Setting setOneThing(RoomEchoes room, Setting setting) {
        int x = RANDOM.nextInt(setting.size()[0] + 1);
        int y = RANDOM.nextInt(setting.size()[1] + 1);
        int z = RANDOM.nextInt(setting.size()[2] + 1);
        switch (RANDOM.nextInt(4)) {
            case 0:
                room.source(x, y, z);
                return setting.source(x, y, z);
            case 1:
                room.listener(x, y, z);
                return setting.listener(x, y, z);
            case 2:
                int[] keeps = setting.keeps().clone();
                int wall = RANDOM.nextInt(6);
                int thousandths = RANDOM.nextInt(1001);
                CHECK.due("keeps(" + wall + ", " + thousandths + ")", room.keeps(wall, thousandths), keeps[wall]);
                keeps[wall] = thousandths;
                return setting.keeps(keeps);
            default:
                return setting;
        }
    }

    private static void wrongCall(RoomEchoes room, Setting setting) {
        int behind = setting.size()[2] + 1;
        switch (RANDOM.nextInt(7)) {
            case 0 -> CHECK.illegalRun("source", () -> room.source(0, 0, behind));
            case 1 -> CHECK.illegalRun("listener", () -> room.listener(0, 1, behind));
            case 2 -> CHECK.illegal("keeps", () -> room.keeps(RANDOM.nextInt(6), 1001));
            case 3 -> CHECK.illegal("image", () -> room.image(0, 0, 41, 0));
            case 4 -> CHECK.illegal("echo", () -> room.echo(500, 0));
            case 5 -> CHECK.illegal("early", () -> room.early(5, 2));
            default -> CHECK.illegal("loudest", () -> room.loudest(-2));
        }
    }

    private static long ask(RoomEchoes room, int kind, int k) {
        return switch (kind) {
            case 0 -> room.image(k % 81 - 40, k % 7, -(k % 5), k % 4);
            case 1 -> room.echo(k, k % 7);
            case 2 -> room.place(k % 5 - 2, k % 3 - 1, k % 7 - 3);
            case 3 -> room.until(k * (long) k);
            case 4 -> room.loud(k / 2, k);
            case 5 -> room.early(k * (long) k, k % 2);
            case 6 -> room.enough(2 * k);
            default -> room.loudest(k % 20 - 1);
        };
    }
}
