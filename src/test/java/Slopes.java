import java.util.ArrayList;
import java.util.List;

/** On Check.TORUS_LINES, THE LINE made to have numbers p, q and p + q, by twists along the LINES a and b. */
final class Slopes {
    static final long LIMIT = 100_000_000_000_000L;

    private Slopes() {
    }

    /** A row p, q with sum = p + times * q, p near to that part of the sum (no short fraction), few twists away. */
    static long[] rowWith(long sum, double part, int times) {
        long from = (long) (sum * part);
        for (long p = from; p < from + 100000; p++) {
            if ((sum - p) % times == 0 && isNear(p, (sum - p) / times)) {
                return new long[] {p, (sum - p) / times};
            }
        }
        throw new IllegalArgumentException("none is near to " + part);
    }

    private static boolean isNear(long p, long q) {
        long a = p;
        long b = q;
        while (b != 0) {
            if (a / b > 99) {
                return false;
            }
            long rest = a % b;
            a = b;
            b = rest;
        }
        return a == 1;
    }

    /** What the last twist answers. EDGE 2 is the others together: a by -k adds k times EDGE 0 to EDGE 1, b by k back. */
    static long growTo(LoopGround x, long p, long q) {
        List<Long> steps = new ArrayList<>();
        long a = p;
        long b = q;
        while (b != 0) {
            steps.add(a / b);
            long rest = a % b;
            a = b;
            b = rest;
        }
        // the last of the steps leads from 1 0 to another 1: it is done first
        x.lay(steps.size() % 2 == 0 ? 1 : 0);
        long answer = 0;
        for (int i = steps.size() - 1; i >= 0; i--) {
            boolean alongB = i % 2 == 0;
            answer = x.twist(alongB ? 1 : 0, (int) (alongB ? steps.get(i) : -steps.get(i)));
        }
        return answer;
    }
}
