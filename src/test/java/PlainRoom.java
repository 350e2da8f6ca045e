import java.math.BigInteger;
import java.util.ArrayList;
import java.util.Collections;
import java.util.Comparator;
import java.util.List;
import java.util.PriorityQueue;

/** The document's terms worked out the slow way, over every image there is. */
final class PlainRoom {
    record Image(long distance, int a, int b, int c) {
        boolean is(int otherA, int otherB, int otherC) {
            return a == otherA && b == otherB && c == otherC;
        }
    }

    private static final Comparator<Image> ORDER = Comparator.comparingLong(Image::distance)
            .thenComparingInt(Image::a).thenComparingInt(Image::b).thenComparingInt(Image::c);

    private final Setting setting;
    private final List<Image> echoes;
    private final long[] loudnesses = new long[500];

    PlainRoom(Setting setting) {
        this.setting = setting;
        PriorityQueue<Image> nearest = new PriorityQueue<>(Collections.reverseOrder(ORDER));
        for (int a = -40; a <= 40; a++) {
            for (int b = -40; b <= 40; b++) {
                for (int c = -40; c <= 40; c++) {
                    nearest.add(new Image(distance(a, b, c), a, b, c));
                    if (nearest.size() > 500) {
                        nearest.remove();
                    }
                }
            }
        }
        echoes = new ArrayList<>(nearest);
        echoes.sort(ORDER);
        for (int k = 0; k < 500; k++) {
            loudnesses[k] = echo(k, 2);
        }
    }

    int kept(int wall) {
        return setting.keeps()[wall];
    }

    private long position(int axis, int n) {
        long w = setting.size()[axis];
        long s = setting.source()[axis];
        return Math.floorMod(n, 2) == 0 ? n * w + s : n * w + w - s;
    }

    private long square(int axis, int n) {
        long difference = position(axis, n) - setting.listener()[axis];
        return difference * difference;
    }

    long distance(int a, int b, int c) {
        return square(0, a) + square(1, b) + square(2, c);
    }

    /** Hits of a wall, counted one by one: a way to image n meets the two walls in turn. */
    private static int hits(int wall, int n) {
        int count = 0;
        boolean atSize = n > 0;
        for (int i = 0; i < Math.abs(n); i++) {
            if (atSize == (wall % 2 == 1)) {
                count++;
            }
            atSize = !atSize;
        }
        return count;
    }

    long strength(int a, int b, int c) {
        int[] numbers = {a, b, c};
        BigInteger strength = BigInteger.valueOf(1000000000);
        for (int wall = 0; wall < 6; wall++) {
            for (int hit = 0; hit < hits(wall, numbers[wall / 2]); hit++) {
                strength = strength.multiply(BigInteger.valueOf(setting.keeps()[wall]))
                        .divide(BigInteger.valueOf(1000));
            }
        }
        return strength.longValueExact();
    }

    long image(int a, int b, int c, int what) {
        return switch (what) {
            case 0 -> distance(a, b, c);
            case 1 -> strength(a, b, c);
            case 2 -> strength(a, b, c) / (1 + distance(a, b, c));
            default -> Math.abs(a) + Math.abs(b) + Math.abs(c);
        };
    }

    long echo(int k, int what) {
        Image image = echoes.get(k);
        return switch (what) {
            case 4 -> image.a();
            case 5 -> image.b();
            case 6 -> image.c();
            default -> image(image.a(), image.b(), image.c(), what);
        };
    }

    int place(int a, int b, int c) {
        for (int k = 0; k < 500; k++) {
            if (echoes.get(k).is(a, b, c)) {
                return k;
            }
        }
        return -1;
    }

    int until(long distance) {
        return (int) echoes.stream().filter(image -> image.distance() <= distance).count();
    }

    long loud(int from, int to) {
        long sum = 0;
        for (int k = from; k <= to; k++) {
            sum += loudnesses[k];
        }
        return sum;
    }

    long early(long distance, int part) {
        long all = loud(0, 499);
        long share = loud(0, until(distance) - 1);
        if (all == 0) {
            return part;
        }
        long divisor = BigInteger.valueOf(share).gcd(BigInteger.valueOf(all)).longValueExact();
        return (part == 0 ? share : all) / divisor;
    }

    int enough(int thousandths) {
        BigInteger due = BigInteger.valueOf(loud(0, 499)).multiply(BigInteger.valueOf(thousandths));
        int k = 0;
        while (BigInteger.valueOf(loud(0, k)).multiply(BigInteger.valueOf(1000)).compareTo(due) < 0) {
            k++;
        }
        return k;
    }

    int loudest(int behind) {
        int best = -1;
        for (int k = 499; k > behind; k--) {
            if (best == -1 || loudnesses[k] >= loudnesses[best]) {
                best = k;
            }
        }
        return best;
    }
}
