import java.util.Random;

/** A room with all that may be set in it, to be made as often as a test needs a new object. */
record Setting(int[] size, int[] source, int[] listener, int[] keeps) {
    static Setting of(int x, int y, int z) {
        return new Setting(new int[] {x, y, z}, new int[3], new int[3],
                new int[] {900, 900, 900, 900, 900, 900});
    }

    Setting source(int x, int y, int z) {
        return new Setting(size, new int[] {x, y, z}, listener, keeps);
    }

    Setting listener(int x, int y, int z) {
        return new Setting(size, source, new int[] {x, y, z}, keeps);
    }

    Setting keeps(int... thousandths) {
        return new Setting(size, source, listener, thousandths);
    }

    static Setting random(Random random, int greatestSize) {
        int[] size = new int[3];
        int[] source = new int[3];
        int[] listener = new int[3];
        int[] keeps = new int[6];
        for (int axis = 0; axis < 3; axis++) {
            size[axis] = 1 + random.nextInt(greatestSize);
            source[axis] = random.nextInt(size[axis] + 1);
            listener[axis] = random.nextInt(size[axis] + 1);
        }
        for (int wall = 0; wall < 6; wall++) {
            keeps[wall] = random.nextInt(1001);
        }
        return new Setting(size, source, listener, keeps);
    }

    /** A new object, two calls old, with the distance 25 straight from source to listener. */
    static RoomEchoes ordinaryRoom() {
        RoomEchoes room = new RoomEchoes(10, 8, 3);
        room.source(3, 4, 2);
        room.listener(7, 1, 2);
        return room;
    }

    /** A new object, eight calls old. */
    RoomEchoes make() {
        RoomEchoes room = new RoomEchoes(size[0], size[1], size[2]);
        setIn(room);
        return room;
    }

    /** Eight calls on an object of these sizes, whatever was set in it before. */
    void setIn(RoomEchoes room) {
        room.source(source[0], source[1], source[2]);
        room.listener(listener[0], listener[1], listener[2]);
        for (int wall = 0; wall < 6; wall++) {
            room.keeps(wall, keeps[wall]);
        }
    }
}
