/** Terms: where an image is, and how often it hits each wall. */
public final class ImageTermsTest {
    private static final Check CHECK = new Check();

    public static void main(String[] args) {
        for (int axis = 0; axis < 3; axis++) {
            evenNumbers(axis);
            oddNumbers(axis);
            sourceAtTheWalls(axis);
            hitsNotBelowZero(axis);
            hitsBelowZero(axis);
            numbersUpToForty(axis);
        }
        numbersBehindForty();
        distanceIsTheSumOfSquares();
        CHECK.end();
    }

    private static RoomEchoes room(int axis, int size, int source, int listener) {
        int[] sizes = {7, 7, 7};
        int[] sourceAt = new int[3];
        int[] listenerAt = new int[3];
        sizes[axis] = size;
        sourceAt[axis] = source;
        listenerAt[axis] = listener;
        RoomEchoes room = new RoomEchoes(sizes[0], sizes[1], sizes[2]);
        room.source(sourceAt[0], sourceAt[1], sourceAt[2]);
        room.listener(listenerAt[0], listenerAt[1], listenerAt[2]);
        return room;
    }

    private static long told(RoomEchoes room, int axis, int number, int what) {
        int[] n = new int[3];
        n[axis] = number;
        return room.image(n[0], n[1], n[2], what);
    }

    private static void isAt(RoomEchoes room, int axis, int number, long at, long listener) {
        CHECK.due("distance of image " + number + " on axis " + axis, told(room, axis, number, 0),
                (at - listener) * (at - listener));
    }

    /** "at n w + s if n is even": the size is 10, the source's 3. */
    private static void evenNumbers(int axis) {
        for (int listener : new int[] {0, 4, 10}) {
            RoomEchoes room = room(axis, 10, 3, listener);
            long[][] due = {{0, 3}, {2, 23}, {4, 43}, {38, 383}, {40, 403}, {-2, -17}, {-4, -37},
                {-38, -377}, {-40, -397}};
            for (long[] pair : due) {
                isAt(room, axis, (int) pair[0], pair[1], listener);
            }
        }
    }

    /** "else at n w + w - s": the size is 10, the source's 3. */
    private static void oddNumbers(int axis) {
        for (int listener : new int[] {0, 4, 10}) {
            RoomEchoes room = room(axis, 10, 3, listener);
            long[][] due = {{1, 17}, {3, 37}, {37, 377}, {39, 397}, {-1, -3}, {-3, -23}, {-37, -363},
                {-39, -383}};
            for (long[] pair : due) {
                isAt(room, axis, (int) pair[0], pair[1], listener);
            }
        }
    }

    private static void sourceAtTheWalls(int axis) {
        RoomEchoes atZero = room(axis, 10, 0, 1);
        RoomEchoes atSize = room(axis, 10, 10, 1);
        long[][] due = {{0, 0, 10}, {1, 20, 10}, {2, 20, 30}, {-1, 0, -10}, {-2, -20, -10},
            {40, 400, 410}, {39, 400, 390}, {-40, -400, -390}, {-39, -380, -390}};
        for (long[] row : due) {
            isAt(atZero, axis, (int) row[0], row[1], 1);
            isAt(atSize, axis, (int) row[0], row[2], 1);
        }
    }

    /** "for n not below 0, (n + 1) / 2 of the wall at w and n / 2 of that at 0 (rounded down)". */
    private static void hitsNotBelowZero(int axis) {
        hits(axis, new int[][] {{0, 0, 0}, {1, 0, 1}, {2, 1, 1}, {3, 1, 2}, {4, 2, 2}, {5, 2, 3},
            {38, 19, 19}, {39, 19, 20}, {40, 20, 20}});
    }

    /** "for n below 0 (1 - n) / 2 of that at 0 and - n / 2 of that at w (all rounded down)". */
    private static void hitsBelowZero(int axis) {
        hits(axis, new int[][] {{-1, 1, 0}, {-2, 1, 1}, {-3, 2, 1}, {-4, 2, 2}, {-5, 3, 2},
            {-38, 19, 19}, {-39, 20, 19}, {-40, 20, 20}});
    }

    /** Where one wall alone takes, and that a half at each hit, the strength tells its hits. */
    private static void hits(int axis, int[][] due) {
        for (int wall = 0; wall < 6; wall++) {
            RoomEchoes room = room(axis, 10, 3, 4);
            for (int other = 0; other < 6; other++) {
                room.keeps(other, other == wall ? 500 : 1000);
            }
            for (int[] row : due) {
                int ofWall = wall / 2 == axis ? row[1 + wall % 2] : 0;
                CHECK.due("strength by wall " + wall + " of image " + row[0] + " on axis " + axis,
                        told(room, axis, row[0], 1), 1000000000L >> ofWall);
                CHECK.due("all hits of image " + row[0] + " on axis " + axis,
                        told(room, axis, row[0], 3), row[1] + row[2]);
            }
        }
    }

    /** "each -40 .. 40": each number has its own place and as many hits as it is off 0. */
    private static void numbersUpToForty(int axis) {
        RoomEchoes room = room(axis, 10, 5, 0);
        for (int number = -40; number <= 40; number++) {
            isAt(room, axis, number, 10L * number + 5, 0);
            CHECK.due("hits of image " + number, told(room, axis, number, 3), Math.abs(number));
        }
    }

    private static void numbersBehindForty() {
        RoomEchoes room = new RoomEchoes(10, 8, 3);
        for (int wrong : new int[] {-41, 41, Integer.MIN_VALUE, Integer.MAX_VALUE}) {
            for (int axis = 0; axis < 3; axis++) {
                int[] n = {40, -40, 40};
                n[axis] = wrong;
                for (int what = 0; what <= 3; what++) {
                    int told = what;
                    CHECK.illegal("image number " + wrong + " on axis " + axis,
                            () -> room.image(n[0], n[1], n[2], told));
                }
                CHECK.illegal("place number " + wrong + " on axis " + axis,
                        () -> room.place(n[0], n[1], n[2]));
            }
        }
    }

    /** The greatest distance there is lies above every int. */
    private static void distanceIsTheSumOfSquares() {
        RoomEchoes room = new RoomEchoes(1000, 1000, 1000);
        room.listener(1, 20, 300);
        CHECK.due("image(0, 0, 0, 0)", room.image(0, 0, 0, 0), 1 + 400 + 90000);
        room.listener(1000, 1000, 1000);
        CHECK.due("image(-40, -40, -40, 0)", room.image(-40, -40, -40, 0), 5043000000L);
        room.source(1000, 1000, 1000);
        room.listener(0, 0, 0);
        CHECK.due("image(40, 40, 40, 0)", room.image(40, 40, 40, 0), 5043000000L);
        CHECK.due("image(40, 0, 0, 0)", room.image(40, 0, 0, 0), 1681000000L + 2000000);
    }
}
