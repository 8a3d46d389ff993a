/** Promises 22 to 26, 28 and 29: the line in earnest. */
public final class ActsTest {
    private static final int NONE = LoopGround.NONE;

    public static void main(String[] args) {
        layAndTwist();
        wrongCalls();
        words();
        undoAndRedo();
        sixty();
        images();
        justAboveTheLimit();
        Check.finish(ActsTest.class);
    }

    private static void layAndTwist() {
        LoopGround x = Check.on(Check.TORUS_LINES + "line d of 2 2 4;line no of 0 0 0;");
        Check.due("lay", x.lay(1), 2);
        Check.numbers(x, NONE, 1, 0, 1);
        // a = b = 0, f = 1, e = 2: f 0 1 2 3, e 1 0 1 2
        Check.due("twist", x.twist(0, 1), 2);
        Check.numbers(x, NONE, 1, 1, 0);
        Check.due("twist", x.twist(0, 1), 4);
        Check.numbers(x, NONE, 1, 2, 1);
        Check.due("twist", x.twist(0, -1), 2);
        Check.numbers(x, NONE, 1, 1, 0);
        Check.due("twist", x.twist(0, -3), 6);
        Check.numbers(x, NONE, 1, 2, 3);
        Check.due("twist", x.twist(0, 99), 2 * 97);
        Check.numbers(x, NONE, 1, 97, 96);
        Check.due("twist", x.twist(0, -99), 6);
        Check.numbers(x, NONE, 1, 2, 3);
        Check.due("lay nothing", x.lay(4), 0);
        Check.due("twist nothing", x.twist(0, 7), 0);
        Check.due("lay", x.lay(3), 8);
        Check.due("twist along what it is", x.twist(2, 5) > 0, true);
        x.lay(0);
        Check.due("twist along itself", x.twist(0, 99), 2);
        Check.numbers(x, NONE, 0, 1, 1);
    }

    private static void wrongCalls() {
        LoopGround x = Check.on(Check.TORUS_LINES + "line d of 2 2 4;line r of 2 2 2;word w is a 1;word v is d 1;");
        x.lay(1);
        int[][] twists = {{0, 0}, {0, 100}, {0, -100}, {0, Integer.MIN_VALUE}, {3, 1}, {4, 1}, {5, 1}, {-1, 1}};
        for (int[] t : twists) {
            Check.due("twist(" + t[0] + ", " + t[1] + ")", x.twist(t[0], t[1]), NONE);
        }
        int[] none = {-1, 5, Integer.MIN_VALUE, Integer.MAX_VALUE};
        for (int n : none) {
            Check.due("lay(" + n + ")", x.lay(n), NONE);
            Check.due("go(" + n + ")", x.go(n), NONE);
            Check.due("image(" + n + ")", x.image(n), NONE);
            Check.due("back(" + n + ")", x.back(n), NONE);
        }
        Check.due("go of one that is not fair", x.go(1), NONE);
        Check.numbers(x, NONE, 1, 0, 1);
        Check.due("acts", x.about(6), 1);
    }

    private static void words() {
        LoopGround x = Check.on(Check.TORUS_LINES + "word w is a 2 b -1;word v is b 1 a -2;");
        x.lay(2);
        x.twist(0, 2);
        x.twist(1, -1);
        long[] want = {x.number(-1, 0), x.number(-1, 1), x.number(-1, 2)};
        x.lay(2);
        Check.due("go", x.go(0), want[0] + want[1] + want[2]);
        Check.numbers(x, NONE, want);
        Check.due("acts", x.about(6), 5);
        Check.due("go back", x.go(1), 2);
        Check.numbers(x, NONE, 1, 1, 0);
    }

    private static void undoAndRedo() {
        LoopGround x = Check.on(Check.TORUS_LINES + "word w is a 2 b -1;");
        Check.due("undo", x.undo(), false);
        Check.due("redo", x.redo(), false);
        x.lay(1);
        x.twist(0, 2);
        x.go(0);
        long all = x.number(-1, 0) + x.number(-1, 1) + x.number(-1, 2);
        Check.due("undo", x.undo(), true);
        Check.numbers(x, NONE, 1, 2, 1);
        Check.due("undo", x.undo(), true);
        Check.numbers(x, NONE, 1, 0, 1);
        Check.due("undo", x.undo(), true);
        Check.numbers(x, NONE, 0, 0, 0);
        Check.due("undo", x.undo(), false);
        Check.due("about(6)", x.about(6), 0);
        Check.due("about(7)", x.about(7), 3);
        Check.due("redo", x.redo(), true);
        Check.due("redo", x.redo(), true);
        Check.numbers(x, NONE, 1, 2, 1);
        Check.due("redo", x.redo(), true);
        Check.due("image", x.image(0), all);
        Check.due("redo", x.redo(), false);
        x.undo();
        x.undo();
        Check.due("what does nothing leaves it", x.twist(0, 0), NONE);
        Check.due("about(7)", x.about(7), 2);
        x.twist(0, 1);
        Check.due("another act", x.about(7), 0);
        Check.due("about(6)", x.about(6), 2);
        Check.due("redo", x.redo(), false);
        Check.numbers(x, NONE, 1, 1, 0);
    }

    private static void sixty() {
        LoopGround x = Check.on(Check.TORUS_LINES);
        x.lay(1);
        for (int k = 1; k <= 59; k++) {
            x.twist(0, 1);
            Check.due("about(6)", x.about(6), k + 1);
        }
        x.twist(0, 1);
        Check.due("of the 61st the oldest is kept no more", x.about(6), 60);
        x.twist(0, 1);
        Check.due("nor of the 62nd", x.about(6), 60);
        Check.numbers(x, NONE, 1, 61, 60);
        for (int k = 0; k < 60; k++) {
            Check.due("undo", x.undo(), true);
        }
        Check.due("undo", x.undo(), false);
        Check.numbers(x, NONE, 1, 1, 0);
        Check.due("about(7)", x.about(7), 60);
        for (int k = 0; k < 60; k++) {
            Check.due("redo", x.redo(), true);
        }
        Check.due("redo", x.redo(), false);
        Check.numbers(x, NONE, 1, 61, 60);
        for (int k = 0; k < 30; k++) {
            x.undo();
        }
        x.lay(2);
        Check.due("about(6)", x.about(6), 31);
        Check.due("about(7)", x.about(7), 0);
        x.undo();
        Check.numbers(x, NONE, 1, 31, 30);
    }

    private static void images() {
        LoopGround x = Check.on(Check.TORUS_LINES);
        Check.due("back", x.back(0), NONE);
        Check.due("image of nothing", x.image(2), 0);
        x.lay(1);
        x.twist(0, 4);
        Check.due("image", x.image(0), 8);
        Check.due("image is no act", x.about(6), 2);
        x.undo();
        Check.due("image", x.image(1), 2);
        Check.due("nor does it end redo", x.about(7), 1);
        Check.due("back(0)", x.back(0), 8);
        Check.numbers(x, NONE, 1, 4, 3);
        Check.due("no acts", x.about(6), 0);
        Check.due("no acts", x.about(7), 0);
        Check.due("undo", x.undo(), false);
        Check.due("redo", x.redo(), false);
        x.twist(0, 1);
        Check.due("what was kept is as it was", x.back(0), 8);
        Check.due("back(1)", x.back(1), 2);
        Check.numbers(x, NONE, 1, 0, 1);
        x.lay(2);
        Check.due("image over another", x.image(1), 2);
        x.lay(0);
        Check.due("back(1)", x.back(1), 2);
        Check.numbers(x, NONE, 1, 1, 0);
        Check.due("back(2)", x.back(2), 0);
        Check.numbers(x, NONE, 0, 0, 0);
        x.lay(2);
        Check.due("back that does nothing leaves acts", x.back(3), NONE);
        Check.due("acts", x.about(6), 1);
    }

    private static void justAboveTheLimit() {
        for (long sum = Slopes.LIMIT - 1; sum <= Slopes.LIMIT + 1; sum++) {
            long zero = Slopes.rowWith(sum, 0.61803398, 1)[0];
            LoopGround x = Check.on(Check.TORUS_LINES);
            long got = Slopes.growTo(x, zero, sum - zero);
            if (sum <= Slopes.LIMIT) {
                Check.due("twist to " + sum, got, 2 * sum);
                Check.numbers(x, NONE, zero, sum - zero, sum);
                Check.due("cross", x.cross(-1, 0), zero);
                int acts = x.about(6);
                Check.due("one more is spent", x.twist(1, 1), -2);
                Check.due("no act", x.about(6), acts);
                Check.numbers(x, NONE, zero, sum - zero, sum);
            } else {
                Check.due("twist to " + sum, got, -2);
                Check.due("the line is as it was", x.number(-1, 2) < sum, true);
            }
        }
    }
}
