/** Promises 22 to 26 and 28 to 30 at their edges: how often, how many ACTS, which BOXES, what is SPENT. */
public final class ActBoundsTest {
    private static final int NONE = LoopGround.NONE;
    private static final int MOST = Integer.MAX_VALUE;
    private static final int LEAST = Integer.MIN_VALUE;

    public static void main(String[] args) {
        lays();
        timesOfATwist();
        sixtyOfEachSort();
        manyMoreThanSixty();
        whatIsNoAct();
        redoTillAnotherAct();
        boxes();
        boxesOfNothing();
        aboutAll();
        spentBackAndForth();
        spentInAFlip();
        lastOf512();
        Check.finish(ActBoundsTest.class);
    }

    private static void lays() {
        LoopGround x = Check.on(Check.FULL);
        Check.due("lay(7)", x.lay(7), 4);
        Check.due("lay(0)", x.lay(0), 2);
        for (int line : new int[] {8, -1, MOST, LEAST}) {
            Check.due("lay(" + line + ")", x.lay(line), NONE);
        }
        Check.due("acts", x.about(6), 2);
        Check.due("number(-1, 0)", x.number(NONE, 0), 1);
        Check.due("lay on no lines", Check.on(Check.TORUS).lay(0), NONE);
        LoopGround no = Check.on(Check.TORUS + "line no of 0 0 0;line most of 98 99 99;");
        Check.due("lay nothing: it is an act", no.lay(0), 0);
        Check.due("acts", no.about(6), 1);
        Check.due("lay the most", no.lay(1), 296);
    }

    private static void timesOfATwist() {
        for (int times = -101; times <= 101; times++) {
            LoopGround x = Check.on(Check.TORUS_LINES);
            x.lay(1);
            long answer = x.twist(0, times);
            if (times == 0 || times < -99 || times > 99) {
                Check.due("twist(0, " + times + ")", answer, NONE);
                Check.numbers(x, NONE, 1, 0, 1);
                Check.due("acts", x.about(6), 1);
            } else {
                // EDGES 1 and 2 are 0 and 1 at first: each time one comes in, or the other way about one goes
                long one = Math.abs(times);
                long two = Math.abs(times - 1);
                Check.due("twist(0, " + times + ")", answer, 1 + one + two);
                Check.numbers(x, NONE, 1, one, two);
                Check.due("acts", x.about(6), 2);
            }
        }
        LoopGround x = Check.on(Check.FULL);
        x.lay(5);
        Check.due("twist(6, 99)", x.twist(6, 99) > 0, true);
        Check.due("twist(6, -99)", x.twist(6, -99), 4);
        for (int line : new int[] {7, 8, -1, MOST, LEAST}) {
            Check.due("twist(" + line + ", 1)", x.twist(line, 1), NONE);
        }
        for (int times : new int[] {MOST, LEAST, LEAST + 1}) {
            Check.due("twist(6, " + times + ")", x.twist(6, times), NONE);
        }
        Check.due("acts", x.about(6), 3);
    }

    /** 60 ACTS are kept, whichever they are; of the 61st the oldest is kept no more. */
    private static void sixtyOfEachSort() {
        for (int acts = 58; acts <= 63; acts++) {
            LoopGround x = Check.on(Check.TORUS_LINES + "word w is a 1;");
            for (int k = 0; k < acts; k++) {
                Check.due("act " + k, act(x, k) >= 0, true);
                Check.due("about(6) behind act " + k, x.about(6), Math.min(k + 1, 60));
                Check.due("about(7) behind act " + k, x.about(7), 0);
            }
            int kept = Math.min(acts, 60);
            String now = State.read(x);
            for (int k = 0; k < kept; k++) {
                Check.due("about(7)", x.about(7), k);
                Check.due("undo", x.undo(), true);
                Check.due("about(6)", x.about(6), kept - k - 1);
            }
            Check.due("no more undo", x.undo(), false);
            Check.due("about(7)", x.about(7), kept);
            asBehind(x, acts - kept);
            for (int k = 0; k < kept; k++) {
                Check.due("redo", x.redo(), true);
            }
            Check.due("no more redo", x.redo(), false);
            Check.due("as it was", State.read(x).equals(now), true);
        }
    }

    private static long act(LoopGround x, int k) {
        switch (k % 3) {
            case 0:
                return x.lay(k / 3 % 3);
            case 1:
                return x.twist(0, 1);
            default:
                return x.go(0);
        }
    }

    private static void asBehind(LoopGround x, int acts) {
        LoopGround other = Check.on(Check.TORUS_LINES + "word w is a 1;");
        for (int k = 0; k < acts; k++) {
            act(other, k);
        }
        for (int edge = 0; edge < 3; edge++) {
            Check.due("as behind " + acts + " acts", x.number(NONE, edge), other.number(NONE, edge));
        }
    }

    /** What is kept goes round and round: from 300 ACTS the latest 60, from an image on those behind it alone. */
    private static void manyMoreThanSixty() {
        LoopGround x = Check.on(Check.TORUS_LINES + "word w is a 1;");
        for (int k = 0; k < 300; k++) {
            act(x, k);
        }
        Check.due("acts", x.about(6), 60);
        for (int k = 0; k < 60; k++) {
            Check.due("undo", x.undo(), true);
        }
        Check.due("undo", x.undo(), false);
        asBehind(x, 240);
        LoopGround y = Check.on(Check.TORUS_LINES + "word w is a 1;");
        for (int k = 0; k < 100; k++) {
            act(y, k);
        }
        y.image(0);
        act(y, 100);
        Check.due("back", y.back(0) > 0, true);
        Check.due("acts", y.about(6), 0);
        asBehind(y, 100);
        for (int k = 100; k < 161; k++) {
            Check.due("acts", y.about(6), k - 100);
            act(y, k);
        }
        Check.due("acts", y.about(6), 60);
        for (int k = 0; k < 60; k++) {
            Check.due("undo", y.undo(), true);
        }
        Check.due("undo", y.undo(), false);
        asBehind(y, 101);
        for (int k = 0; k < 60; k++) {
            Check.due("redo", y.redo(), true);
        }
        Check.due("redo", y.redo(), false);
        asBehind(y, 161);
    }

    private static void whatIsNoAct() {
        LoopGround x = Check.on(Check.TORUS_LINES + "line r of 2 2 2;word w is a 1;word v is r 1;");
        for (int k = 0; k < 60; k++) {
            x.lay(k % 3);
        }
        x.undo();
        x.lay(9);
        x.twist(0, 0);
        x.twist(3, 1);
        x.go(1);
        x.go(2);
        x.image(0);
        x.image(3);
        x.back(1);
        Check.due("about(6)", x.about(6), 59);
        Check.due("about(7)", x.about(7), 1);
        Check.due("redo", x.redo(), true);
        Check.due("about(6)", x.about(6), 60);
        // an ACT that changes nothing is one all the same
        x.lay(0);
        x.lay(0);
        x.twist(0, 5);
        Check.due("undo", x.undo(), true);
        Check.due("undo", x.undo(), true);
        Check.numbers(x, NONE, 0, 1, 1);
        Check.due("about(7)", x.about(7), 2);
    }

    private static void redoTillAnotherAct() {
        for (int sort = 0; sort < 3; sort++) {
            LoopGround x = Check.on(Check.TORUS_LINES + "word w is a 1;");
            x.lay(1);
            x.lay(2);
            x.undo();
            act(x, sort);
            Check.due("redo behind another act", x.redo(), false);
            Check.due("about(7)", x.about(7), 0);
            Check.due("about(6)", x.about(6), 2);
            x.undo();
            Check.numbers(x, NONE, 1, 0, 1);
            Check.due("redo", x.redo(), true);
            x.undo();
            x.undo();
            Check.numbers(x, NONE, 0, 0, 0);
            Check.due("undo", x.undo(), false);
            Check.numbers(x, NONE, 0, 0, 0);
        }
        // what was taken back last comes first
        LoopGround x = Check.on(Check.TORUS_LINES);
        for (int line = 0; line < 3; line++) {
            x.lay(line);
        }
        x.undo();
        x.undo();
        x.redo();
        Check.numbers(x, NONE, 1, 0, 1);
        x.redo();
        Check.numbers(x, NONE, 1, 1, 0);
        Check.due("redo", x.redo(), false);
    }

    private static void boxes() {
        LoopGround x = Check.on(Check.TORUS_LINES);
        for (int box = 0; box <= 2; box++) {
            Check.due("nothing was kept: back(" + box + ")", x.back(box), NONE);
            x.lay(box);
            Check.due("image(" + box + ")", x.image(box), 2);
        }
        for (int box : new int[] {3, -1, MOST, LEAST}) {
            Check.due("image(" + box + ")", x.image(box), NONE);
            Check.due("back(" + box + ")", x.back(box), NONE);
        }
        Check.due("acts", x.about(6), 3);
        long[][] want = {{0, 1, 1}, {1, 0, 1}, {1, 1, 0}};
        for (int box = 2; box >= 0; box--) {
            Check.due("back(" + box + ")", x.back(box), 2);
            Check.numbers(x, NONE, want[box]);
            Check.due("no acts are kept", x.about(6), 0);
        }
        Check.due("back(0) once more", x.back(0), 2);
        // what THE LINE comes to then is not in the BOX, till it is kept there
        x.twist(1, 3);
        Check.due("back(0)", x.back(0), 2);
        x.twist(1, 3);
        long all = x.image(0);
        x.lay(2);
        Check.due("back(0)", x.back(0), all);
        Check.due("back(2) is as it was", x.back(2), 2);
        Check.numbers(x, NONE, want[2]);
    }

    private static void boxesOfNothing() {
        LoopGround x = new LoopGround();
        Check.due("image on an empty ground", x.image(2), 0);
        Check.due("back", x.back(2), 0);
        Check.due("back of another", x.back(1), NONE);
        Check.feed(x, Check.TORUS_LINES);
        x.ground();
        for (int box = 0; box <= 2; box++) {
            Check.due("boxes are empty on a new ground", x.back(box), NONE);
        }
        Check.due("image of a line that is 0", x.image(0), 0);
        x.lay(0);
        Check.due("back to 0", x.back(0), 0);
        Check.numbers(x, NONE, 0, 0, 0);
        Check.due("undo", x.undo(), false);
    }

    private static void aboutAll() {
        LoopGround x = Check.on(Check.FULL);
        x.lay(0);
        x.lay(1);
        x.undo();
        Check.feed(x, "abc");
        int[] want = {12, 18, 2, 3, 8, 6, 1, 1, 3};
        for (int what = 0; what <= 8; what++) {
            Check.due("about(" + what + ")", x.about(what), want[what]);
        }
        for (int what : new int[] {9, -1, 10, MOST, LEAST}) {
            Check.due("about(" + what + ")", x.about(what), NONE);
            Check.due("fault(" + what + ")", x.fault(what), NONE);
        }
        Check.due("fault(2)", x.fault(2), NONE);
        // HANDLES and POINTS of grounds with as many of each as can be
        int[][] counts = {{2, 1, 1}, {4, 2, 1}, {6, 1, 2}, {8, 2, 2}, {10, 1, 3}, {12, 2, 3}};
        for (int[] c : counts) {
            LoopGround ladder = Check.on(Check.ladder(c[0]));
            Check.due("points of " + c[0] + " pieces", ladder.about(2), c[1]);
            Check.due("handles of " + c[0] + " pieces", ladder.about(3), c[2]);
        }
        Check.due("handles of nothing, as they are counted", new LoopGround().about(3), 1);
    }

    /** At the limit a TWIST one way is SPENT and does nothing, the other way it is none. */
    private static void spentBackAndForth() {
        long[] row = Slopes.rowWith(Slopes.LIMIT, 0.61803398, 1);
        LoopGround x = Check.on(Check.TORUS_LINES + "word up is b 1;word down is b -1;");
        Slopes.growTo(x, row[0], row[1]);
        int acts = x.about(6);
        x.image(0);
        for (int times : new int[] {1, 2, 99}) {
            Check.due("twist(1, " + times + ")", x.twist(1, times), -2);
        }
        Check.due("go up", x.go(0), -2);
        Check.due("twist along a", x.twist(0, -1), -2);
        Check.numbers(x, NONE, row[0], row[1], Slopes.LIMIT);
        Check.due("acts", x.about(6), acts);
        Check.due("nothing to be redone", x.about(7), 0);
        x.undo();
        Check.due("twist spent does not end redo", x.twist(0, 99), -2);
        Check.due("go spent does not either", x.about(7), 1);
        x.redo();
        Check.numbers(x, NONE, row[0], row[1], Slopes.LIMIT);
        Check.due("twist(1, -1)", x.twist(1, -1), 2 * row[0]);
        Check.numbers(x, NONE, row[0] - row[1], row[1], row[0]);
        Check.due("and forth again", x.go(0), 2 * Slopes.LIMIT);
        Check.due("go down", x.go(1), 2 * row[0]);
    }

    /** With 2 1 1 made SHORT, EDGE 0 of p, q, p + q comes to p + 2 q: SPENT ahead of any TWIST, if that is too much. */
    private static void spentInAFlip() {
        for (long sum = Slopes.LIMIT; sum <= Slopes.LIMIT + 1; sum++) {
            LoopGround x = Check.on(Check.TORUS_LINES + "line d of 2 1 1;word d is d 1;word e is d -1;");
            long[] row = Slopes.rowWith(sum, 0.41421356, 2);
            Slopes.growTo(x, row[0], row[1]);
            x.undo();
            x.redo();
            int acts = x.about(6);
            Check.due("cross", x.cross(NONE, 3), sum > Slopes.LIMIT ? -2 : sum);
            Check.due("twist(3, 1)", x.twist(3, 1), -2);
            Check.due("twist(3, -1)", x.twist(3, -1), -2);
            Check.due("twist(3, 99)", x.twist(3, 99), -2);
            Check.due("go(0)", x.go(0), -2);
            Check.due("go(1)", x.go(1), -2);
            Check.numbers(x, NONE, row[0], row[1], row[0] + row[1]);
            Check.due("acts", x.about(6), acts);
        }
    }

    /** An object answers 512 calls. */
    private static void lastOf512() {
        LoopGround x = new LoopGround();
        x.feed(0x70696563, 0x65203020, 0x3120323b, 0x70696563, 0x65203020);
        x.feed(0x3120323b, 0x6c696e65, 0x2061206f, 0x66203020, 0x3120313b);
        Check.due("ground()", x.ground(), 1);
        x.lay(0);
        for (int call = 5; call <= 511; call++) {
            Check.due("call " + call, x.twist(0, 1), 2);
        }
        Check.due("call 512", x.about(6), 60);
    }
}
