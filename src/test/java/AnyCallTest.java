import java.lang.management.ManagementFactory;
import java.util.Random;

/** Calls with any arguments in any state: none throws, none fails to end, and none makes objects. */
public final class AnyCallTest {
    private static final int[] NUMBERS = {0, 1, 2, 3, 4, 5, 6, 7, 8, 9, 17, 18, 20, 21, 35, 36, 40, 99, 100, -1, -2, -3,
        -99, -100, 1599, 1600, 1601, 18000, Integer.MAX_VALUE, Integer.MIN_VALUE, Integer.MAX_VALUE - 19};

    private final Random random;
    private final LoopGround x = new LoopGround();
    private final int[][] texts;

    private AnyCallTest(int seed) {
        random = new Random(seed);
        texts = new int[12][];
        for (int i = 0; i < texts.length; i++) {
            texts[i] = bytes(i % 4 == 3 ? "0bc" : Grounds.text(random, 2 + 2 * random.nextInt(6)));
        }
    }

    public static void main(String[] args) {
        long least = Long.MAX_VALUE;
        int runs = args.length > 0 ? Integer.parseInt(args[0]) : 200;
        for (int seed = 0; seed < runs; seed++) {
            AnyCallTest test = new AnyCallTest(seed);
            long before = allocated();
            for (int k = 0; k < 512; k++) {
                test.call();
            }
            least = Math.min(least, allocated() - before);
            Check.due("all calls were answered", test.x.about(8) >= 0, true);
        }
        // The machine's own counting may make some few bytes; 512 calls that made one object each would show.
        Check.due("bytes that 512 calls made: " + least, least < 512 * 16, true);
        Check.finish(AnyCallTest.class);
    }

    private static long allocated() {
        com.sun.management.ThreadMXBean threads =
            (com.sun.management.ThreadMXBean) ManagementFactory.getThreadMXBean();
        return threads.getThreadAllocatedBytes(Thread.currentThread().getId());
    }

    private static int[] bytes(String text) {
        int[] n = new int[(text.length() + 19) / 20 * 5 + 1];
        n[0] = text.length();
        for (int i = 0; i < text.length(); i++) {
            n[1 + i / 4] |= text.charAt(i) << (24 - 8 * (i % 4));
        }
        return n;
    }

    private int any() {
        return random.nextInt(3) == 0 ? NUMBERS[random.nextInt(NUMBERS.length)] : random.nextInt(6);
    }

    private void tell() {
        int[] text = texts[random.nextInt(texts.length)];
        x.end(0);
        for (int i = 1; i + 4 < text.length; i += 5) {
            x.feed(text[i], text[i + 1], text[i + 2], text[i + 3], text[i + 4]);
        }
        x.end(text[0]);
    }

    private void call() {
        int a = any();
        int b = any();
        int c = any();
        switch (random.nextInt(30)) {
            case 0 -> x.feed(a, b, c, random.nextInt(), random.nextInt());
            case 1 -> x.end(a);
            case 2 -> {
                tell();
                x.ground();
            }
            case 3 -> x.fault(a);
            case 4 -> x.point(a, b);
            case 5 -> x.number(a, b);
            case 6 -> x.loops(a, b);
            case 7 -> x.traced(a, b);
            case 8 -> x.flips(a);
            case 9 -> x.flip(a, b);
            case 10 -> x.cross(a, b);
            case 11 -> x.across(a, b);
            case 12 -> x.kept(a);
            case 13 -> x.alike(a, b);
            case 14 -> x.order(a);
            case 15 -> x.stretch(a, b, c);
            case 16 -> x.table(a, b, c, any());
            case 17 -> x.polynomial(a, b, c);
            case 18 -> x.least(a, b);
            case 19 -> x.lies(a);
            case 20 -> x.lay(a);
            case 21 -> x.twist(a, b);
            case 22 -> x.go(a);
            case 23 -> x.undo();
            case 24 -> x.redo();
            case 25 -> {
                tell();
                x.sketch();
            }
            case 26 -> x.image(a);
            case 27 -> x.back(a);
            case 28 -> x.about(a);
            default -> x.about(8);
        }
    }
}
