/**
 * Echoes in a box of a room: a sound comes straight and by its walls, and each way is as long as
 * to an image of the source behind them.
 */
public final class RoomEchoes {
    /** There is none. */
    public static final int NONE = -1;

    private static final int ECHOES = 500;
    private static final int WALLS = 6;
    private static final int LEAST_SIZE = 1;
    private static final int GREATEST_SIZE = 1000;
    private static final int WHOLE = 1000;
    private static final int KEPT_AT_FIRST = 900;
    private static final long FULL_STRENGTH = 1000000000L;

    private static final int FARTHEST = 40;
    private static final int NUMBERS = 2 * FARTHEST + 1;

    private static final int OF_DISTANCE = 0;
    private static final int OF_STRENGTH = 1;
    private static final int OF_LOUDNESS = 2;
    private static final int OF_HITS = 3;
    private static final int OF_FIRST_NUMBER = 4;
    private static final int OF_SECOND_NUMBER = 5;
    private static final int OF_THIRD_NUMBER = 6;

    // A key holds an image's distance (below 2^33) above its three numbers, each raised by
    // FARTHEST so that none is below 0: keys compare just as the echoes are ordered.
    private static final int NUMBER_BITS = 7;
    private static final int NUMBER_MASK = (1 << NUMBER_BITS) - 1;

    // Taking an image out of the frontier brings in three at most, two more than before.
    private static final int FRONTIER_ROOM = 2 * ECHOES + 1;

    // Loudness summed is below 2^40; Euclid's steps on such numbers are fewer than 60.
    private static final int EUCLID_STEPS = 1000;

    private final Axis first;
    private final Axis second;
    private final Axis third;
    private final int[] kept = new int[WALLS];
    private final Frontier frontier = new Frontier();
    private final long[] echoKeys = new long[ECHOES];
    private final long[] loudnesses = new long[ECHOES];
    private boolean ordered;
    private boolean weighed;

    public RoomEchoes(int x, int y, int z) {
        first = new Axis(sizeWithin(x));
        second = new Axis(sizeWithin(y));
        third = new Axis(sizeWithin(z));
        for (int wall = 0; wall < WALLS; wall++) {
            kept[wall] = KEPT_AT_FIRST;
        }
    }

    public void source(int x, int y, int z) throws IllegalArgumentException {
        requirePoint(x, y, z);
        first.sourceAt = x;
        second.sourceAt = y;
        third.sourceAt = z;
        forgetOrder();
    }

    public void listener(int x, int y, int z) throws IllegalArgumentException {
        requirePoint(x, y, z);
        first.listenerAt = x;
        second.listenerAt = y;
        third.listenerAt = z;
        forgetOrder();
    }

    public int keeps(int wall, int thousandths) throws IllegalArgumentException {
        requireWithin(wall, 0, WALLS - 1);
        requireWithin(thousandths, 0, WHOLE);
        int before = kept[wall];
        kept[wall] = thousandths;
        weighed = false;
        return before;
    }

    // ---- images

    public long image(int a, int b, int c, int what) throws IllegalArgumentException {
        requireNumbers(a, b, c);
        requireWithin(what, OF_DISTANCE, OF_HITS);
        switch (what) {
            case OF_DISTANCE:
                return distanceOf(a, b, c);
            case OF_STRENGTH:
                return strengthOf(a, b, c);
            case OF_LOUDNESS:
                return loudnessOf(strengthOf(a, b, c), distanceOf(a, b, c));
            default:
                return hitsOf(a, b, c);
        }
    }

    public long echo(int k, int what) throws IllegalArgumentException {
        requireWithin(k, 0, ECHOES - 1);
        requireWithin(what, OF_DISTANCE, OF_THIRD_NUMBER);
        orderEchoes();
        long key = echoKeys[k];
        int a = firstNumberIn(key);
        int b = secondNumberIn(key);
        int c = thirdNumberIn(key);
        switch (what) {
            case OF_FIRST_NUMBER:
                return a;
            case OF_SECOND_NUMBER:
                return b;
            case OF_THIRD_NUMBER:
                return c;
            default:
                return image(a, b, c, what);
        }
    }

    public int place(int a, int b, int c) throws IllegalArgumentException {
        requireNumbers(a, b, c);
        orderEchoes();
        long key = keyOf(distanceOf(a, b, c), a, b, c);
        for (int k = 0; k < ECHOES; k++) {
            if (echoKeys[k] == key) {
                return k;
            }
        }
        return NONE;
    }

    // ---- how much, how early

    public int until(long distance) throws IllegalArgumentException {
        requireDistance(distance);
        orderEchoes();
        return countWithin(distance);
    }

    public long loud(int from, int to) throws IllegalArgumentException {
        requireWithin(from, 0, ECHOES - 1);
        requireWithin(to, from, ECHOES - 1);
        weighEchoes();
        return loudnessBetween(from, to + 1);
    }

    public long early(long distance, int part) throws IllegalArgumentException {
        requireDistance(distance);
        requireWithin(part, 0, 1);
        weighEchoes();
        long all = loudnessBetween(0, ECHOES);
        long share = loudnessBetween(0, countWithin(distance));
        long divisor = greatestCommonDivisor(all, share);
        if (divisor == 0) {
            // Without any loudness the share is told as 0 above 1: each part is its own number.
            return part;
        }
        return (part == 0 ? share : all) / divisor;
    }

    public int enough(int thousandths) throws IllegalArgumentException {
        requireWithin(thousandths, 0, WHOLE);
        weighEchoes();
        long due = loudnessBetween(0, ECHOES) * thousandths;
        long soFar = 0;
        for (int k = 0; k < ECHOES; k++) {
            soFar += loudnesses[k];
            if (soFar * WHOLE >= due) {
                return k;
            }
        }
        return ECHOES - 1;
    }

    public int loudest(int k) throws IllegalArgumentException {
        requireWithin(k, NONE, ECHOES - 1);
        weighEchoes();
        int best = NONE;
        long most = -1;
        for (int other = k + 1; other < ECHOES; other++) {
            if (loudnesses[other] > most) {
                most = loudnesses[other];
                best = other;
            }
        }
        return best;
    }

    // ---- what is allowed

    private static int sizeWithin(int size) {
        return Math.max(LEAST_SIZE, Math.min(GREATEST_SIZE, size));
    }

    private static void requireWithin(int number, int least, int greatest) {
        if (number < least || number > greatest) {
            throw new IllegalArgumentException("a number is out of its bounds");
        }
    }

    private static void requireDistance(long distance) {
        if (distance < 0) {
            throw new IllegalArgumentException("a distance is below 0");
        }
    }

    private static void requireNumbers(int a, int b, int c) {
        requireWithin(a, -FARTHEST, FARTHEST);
        requireWithin(b, -FARTHEST, FARTHEST);
        requireWithin(c, -FARTHEST, FARTHEST);
    }

    private void requirePoint(int x, int y, int z) {
        requireWithin(x, 0, first.size);
        requireWithin(y, 0, second.size);
        requireWithin(z, 0, third.size);
    }

    // ---- one image

    private long distanceOf(int a, int b, int c) {
        return first.squareTo(a) + second.squareTo(b) + third.squareTo(c);
    }

    private long strengthOf(int a, int b, int c) {
        long afterFirst = strengthAfterAxis(FULL_STRENGTH, a, kept[0], kept[1]);
        long afterSecond = strengthAfterAxis(afterFirst, b, kept[2], kept[3]);
        return strengthAfterAxis(afterSecond, c, kept[4], kept[5]);
    }

    private static long strengthAfterAxis(long strength, int number, int keptAtZero, int keptAtSize) {
        long afterZero = strengthAfterHits(strength, hitsAtZero(number), keptAtZero);
        return strengthAfterHits(afterZero, hitsAtSize(number), keptAtSize);
    }

    // Hit by hit, for what is rounded down at each of them is lost to the next.
    private static long strengthAfterHits(long strength, int hits, int thousandths) {
        long left = strength;
        for (int hit = 0; hit < hits; hit++) {
            left = left * thousandths / WHOLE;
        }
        return left;
    }

    private static int hitsAtZero(int number) {
        return number >= 0 ? number / 2 : (1 - number) / 2;
    }

    private static int hitsAtSize(int number) {
        return number >= 0 ? (number + 1) / 2 : -number / 2;
    }

    private static int hitsOn(int number) {
        return hitsAtZero(number) + hitsAtSize(number);
    }

    private static int hitsOf(int a, int b, int c) {
        return hitsOn(a) + hitsOn(b) + hitsOn(c);
    }

    private static long loudnessOf(long strength, long distance) {
        long divisor = 1 + distance;
        return divisor > 0 ? strength / divisor : 0;
    }

    // ---- keys

    private static long keyOf(long distance, int a, int b, int c) {
        long key = withNumberBelow(distance, a);
        key = withNumberBelow(key, b);
        return withNumberBelow(key, c);
    }

    private static long withNumberBelow(long upper, int number) {
        return (upper << NUMBER_BITS) | (number + FARTHEST);
    }

    private static int lowestNumberIn(long key) {
        return (int) (key & NUMBER_MASK) - FARTHEST;
    }

    private static long distanceIn(long key) {
        return key >> (3 * NUMBER_BITS);
    }

    private static int firstNumberIn(long key) {
        return lowestNumberIn(key >> (2 * NUMBER_BITS));
    }

    private static int secondNumberIn(long key) {
        return lowestNumberIn(key >> NUMBER_BITS);
    }

    private static int thirdNumberIn(long key) {
        return lowestNumberIn(key);
    }

    // ---- all echoes

    private void forgetOrder() {
        ordered = false;
        weighed = false;
    }

    private void orderEchoes() {
        if (ordered) {
            return;
        }
        first.order();
        second.order();
        third.order();
        frontier.clear();
        addAtRanks(0, 0, 0);
        for (int k = 0; k < ECHOES; k++) {
            long key = frontier.takeLeast();
            echoKeys[k] = key;
            addFollowers(key);
        }
        ordered = true;
    }

    // An image never comes before one whose ranks are nowhere higher. So each waits for the one
    // image it follows by a single rank, and comes into the frontier only once that is taken.
    private void addFollowers(long key) {
        int i = first.rankOf(firstNumberIn(key));
        int j = second.rankOf(secondNumberIn(key));
        int m = third.rankOf(thirdNumberIn(key));
        addAtRanks(i, j, m + 1);
        if (m == 0) {
            addAtRanks(i, j + 1, 0);
        }
        if (m == 0 && j == 0) {
            addAtRanks(i + 1, 0, 0);
        }
    }

    private void addAtRanks(int i, int j, int m) {
        if (i < NUMBERS && j < NUMBERS && m < NUMBERS) {
            long distance = first.squareAt(i) + second.squareAt(j) + third.squareAt(m);
            frontier.add(keyOf(distance, first.numberAt(i), second.numberAt(j), third.numberAt(m)));
        }
    }

    private void weighEchoes() {
        orderEchoes();
        if (weighed) {
            return;
        }
        for (int k = 0; k < ECHOES; k++) {
            long key = echoKeys[k];
            long strength = strengthOf(firstNumberIn(key), secondNumberIn(key), thirdNumberIn(key));
            loudnesses[k] = loudnessOf(strength, distanceIn(key));
        }
        weighed = true;
    }

    // ---- over echoes that the caller has put in order and weighed

    private int countWithin(long distance) {
        int count = 0;
        while (count < ECHOES && distanceIn(echoKeys[count]) <= distance) {
            count++;
        }
        return count;
    }

    private long loudnessBetween(int from, int end) {
        long sum = 0;
        for (int k = Math.max(0, from); k < end && k < ECHOES; k++) {
            sum += loudnesses[k];
        }
        return sum;
    }

    private static long greatestCommonDivisor(long one, long other) {
        long greater = one;
        long less = other;
        for (int step = 0; step < EUCLID_STEPS && less != 0; step++) {
            long rest = greater % less;
            greater = less;
            less = rest;
        }
        return greater;
    }

    /** One axis of the room, and its image numbers ranked by how far their images are. */
    private static final class Axis {
        final int size;
        int sourceAt;
        int listenerAt;
        private final long[] ranked = new long[NUMBERS];
        private final int[] ranks = new int[NUMBERS];

        Axis(int size) {
            this.size = size;
        }

        long squareTo(int number) {
            long difference = imageAt(number) - listenerAt;
            return difference * difference;
        }

        private int imageAt(int number) {
            boolean even = (number & 1) == 0;
            return number * size + (even ? sourceAt : size - sourceAt);
        }

        // From the middle outward the squares nearly rise by themselves, which leaves the
        // insertion little to move.
        void order() {
            insert(0, 0);
            for (int away = 1; away <= FARTHEST; away++) {
                insert(-away, 2 * away - 1);
                insert(away, 2 * away);
            }
            for (int rank = 0; rank < NUMBERS; rank++) {
                int raised = numberAt(rank) + FARTHEST;
                if (raised >= 0 && raised < NUMBERS) {
                    ranks[raised] = rank;
                }
            }
        }

        private void insert(int number, int filled) {
            if (filled < 0 || filled >= NUMBERS) {
                return;
            }
            long key = withNumberBelow(squareTo(number), number);
            int at = filled;
            while (at > 0 && ranked[at - 1] > key) {
                ranked[at] = ranked[at - 1];
                at--;
            }
            ranked[at] = key;
        }

        long squareAt(int rank) {
            return rank >= 0 && rank < NUMBERS ? ranked[rank] >> NUMBER_BITS : 0;
        }

        int numberAt(int rank) {
            return rank >= 0 && rank < NUMBERS ? lowestNumberIn(ranked[rank]) : 0;
        }

        int rankOf(int number) {
            int raised = number + FARTHEST;
            return raised >= 0 && raised < NUMBERS ? ranks[raised] : NUMBERS;
        }
    }

    /** Keys of images that may be the next echo: a heap, the least of them on top. */
    private static final class Frontier {
        private final long[] keys = new long[FRONTIER_ROOM];
        private int size;

        void clear() {
            size = 0;
        }

        void add(long key) {
            if (size >= keys.length) {
                return;
            }
            int at = size;
            size++;
            while (at > 0 && keys[(at - 1) / 2] > key) {
                keys[at] = keys[(at - 1) / 2];
                at = (at - 1) / 2;
            }
            keys[at] = key;
        }

        long takeLeast() {
            if (size < 1) {
                return 0;
            }
            long least = keys[0];
            size--;
            sinkFromTop(keys[size]);
            return least;
        }

        private void sinkFromTop(long key) {
            int at = 0;
            for (int below = 1; below < size; below = 2 * at + 1) {
                if (below + 1 < size && keys[below + 1] < keys[below]) {
                    below++;
                }
                if (keys[below] >= key) {
                    break;
                }
                keys[at] = keys[below];
                at = below;
            }
            keys[at] = key;
        }
    }
}
