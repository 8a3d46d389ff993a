/** Promises 6 to 9 and 30: points, numbers, loops, traces, and what there is of each. */
public final class LinesTest {
    public static void main(String[] args) {
        points();
        counts();
        numbers();
        loops();
        traces();
        tooLong();
        Check.finish(LinesTest.class);
    }

    private static void points() {
        LoopGround torus = Check.on(Check.TORUS);
        LoopGround four = Check.on(Check.FOUR_POINTS);
        int[][] want = {{0, 1, 1}, {1, 2, 1}, {2, 1, 1}, {1, 3, 1}};
        for (int corner = 0; corner < 3; corner++) {
            Check.due("point on the torus", torus.point(0, corner), 0);
            Check.due("point on the torus", torus.point(1, corner), 0);
            for (int piece = 0; piece < 4; piece++) {
                Check.due("point(" + piece + ", " + corner + ")", four.point(piece, corner), want[piece][corner]);
            }
        }
        Check.due("point(4, 0)", four.point(4, 0), LoopGround.NONE);
        Check.due("point(-1, 0)", four.point(-1, 0), LoopGround.NONE);
        Check.due("point(0, 3)", four.point(0, 3), LoopGround.NONE);
        Check.due("point(0, -1)", four.point(0, -1), LoopGround.NONE);
        Check.due("point(most, most)", four.point(Integer.MAX_VALUE, Integer.MAX_VALUE), LoopGround.NONE);
        // the two ways of gluing two pieces by all their edges
        LoopGround sphere = Check.on("piece 0 1 2;piece 0 2 1;");
        Check.due("points of the sphere", sphere.about(2), 3);
        Check.due("handles of the sphere", sphere.about(3), 0);
        int[][] on = {{0, 1, 2}, {2, 1, 0}};
        for (int corner = 0; corner < 3; corner++) {
            Check.due("point(0, " + corner + ")", sphere.point(0, corner), on[0][corner]);
            Check.due("point(1, " + corner + ")", sphere.point(1, corner), on[1][corner]);
        }
    }

    private static void about(String text, int... want) {
        LoopGround x = Check.on(text);
        for (int what = 0; what < want.length; what++) {
            Check.due("about(" + what + ") of " + text, x.about(what), want[what]);
        }
        Check.due("about(9)", x.about(9), LoopGround.NONE);
        Check.due("about(-1)", x.about(-1), LoopGround.NONE);
        Check.due("about(least)", x.about(Integer.MIN_VALUE), LoopGround.NONE);
    }

    private static void counts() {
        about("", 0, 0, 0, 1, 0, 0, 0, 0, 0);
        about(Check.TORUS_LINES + "word w is a 1;", 2, 3, 1, 1, 3, 1, 0, 0, 0);
        about(Check.FOUR_POINTS, 4, 6, 4, 0, 0, 0, 0, 0, 0);
        about(Check.TWO_HANDLES, 6, 9, 1, 2, 0, 0, 0, 0, 0);
        about("piece 0 1 2;piece 0 1 3;piece 2 4 5;piece 3 4 6;piece 5 7 8;piece 6 7 9;piece 8 10 11;piece 9 10 12;"
            + "piece 11 13 14;piece 12 13 15;piece 14 16 17;piece 15 16 17;", 12, 18);
    }

    private static void numbers() {
        LoopGround x = Check.on(Check.TORUS + "line a of 3 4 5;line b of 99 99 98;");
        Check.numbers(x, 0, 3, 4, 5, -2);
        Check.numbers(x, 1, 99, 99, 98, -2);
        Check.numbers(x, 2, -2, -2);
        Check.numbers(x, -2, -2, -2);
        Check.numbers(x, LoopGround.NONE, 0, 0, 0, -2);
        x.lay(1);
        Check.numbers(x, LoopGround.NONE, 99, 99, 98, -2);
        Check.due("number(0, -1)", x.number(0, -1), -2);
        Check.due("number(most, 0)", x.number(Integer.MAX_VALUE, 0), -2);
        Check.due("number(0, most)", x.number(0, Integer.MAX_VALUE), -2);
    }

    private static void loopsOf(String ground, String numbers, int loops, int rings) {
        LoopGround x = Check.on(ground + "line a of " + numbers + ";");
        x.lay(0);
        for (int line = -1; line <= 0; line++) {
            Check.due("loops of " + numbers, x.loops(line, 0), loops);
            Check.due("rings of " + numbers, x.loops(line, 1), rings);
            Check.due("single: " + numbers, x.loops(line, 2), loops == 1 && rings == 0 ? 1 : 0);
            Check.due("loops(" + line + ", 3)", x.loops(line, 3), LoopGround.NONE);
            Check.due("loops(" + line + ", -1)", x.loops(line, -1), LoopGround.NONE);
        }
        Check.due("loops(1, 0)", x.loops(1, 0), LoopGround.NONE);
        Check.due("loops(-2, 0)", x.loops(-2, 0), LoopGround.NONE);
    }

    private static void loops() {
        loopsOf(Check.TORUS, "0 0 0", 0, 0);
        loopsOf(Check.TORUS, "0 1 1", 1, 0);
        loopsOf(Check.TORUS, "0 5 5", 5, 0);
        loopsOf(Check.TORUS, "2 3 5", 1, 0);
        loopsOf(Check.TORUS, "2 4 6", 2, 0);
        loopsOf(Check.TORUS, "2 2 2", 1, 1);
        loopsOf(Check.TORUS, "4 4 4", 2, 2);
        loopsOf(Check.TORUS, "2 3 3", 2, 1);
        loopsOf(Check.TORUS, "98 98 98", 49, 49);
        loopsOf(Check.TORUS, "99 1 98", 1, 0);
        loopsOf(Check.FOUR_POINTS, "1 0 0 0 0 0", 1, 1);
        loopsOf(Check.FOUR_POINTS, "0 0 1 1 0 0", 1, 1);
        loopsOf(Check.FOUR_POINTS, "1 2 2 0 2 1", 1, 0);
        loopsOf(Check.FOUR_POINTS, "2 2 2 0 2 1", 2, 1);
        loopsOf(Check.FOUR_POINTS, "1 2 1 1 2 1", 1, 1);
        loopsOf(Check.TWO_HANDLES, "2 2 0 0 2 2 0 0 0", 1, 0);
        loopsOf(Check.TWO_HANDLES, "1 0 0 1 1 0 0 0 1", 2, 0);
    }

    private static void trace(String ground, String numbers, int... want) {
        LoopGround x = Check.on(ground + "line a of " + numbers + ";");
        x.lay(0);
        for (int line = -1; line <= 0; line++) {
            for (int i = 0; i < want.length; i++) {
                Check.due("traced(" + line + ", " + i + ") of " + numbers, x.traced(line, i), want[i]);
            }
            Check.due("traced behind the end of " + numbers, x.traced(line, want.length), LoopGround.NONE);
            Check.due("traced(most)", x.traced(line, Integer.MAX_VALUE), LoopGround.NONE);
            Check.due("traced(-1)", x.traced(line, -1), LoopGround.NONE);
        }
        Check.due("traced(1, 0)", x.traced(1, 0), LoopGround.NONE);
        Check.due("traced(-2, 0)", x.traced(-2, 0), LoopGround.NONE);
    }

    private static void traces() {
        trace(Check.TORUS, "0 0 0");
        trace(Check.TORUS, "0 1 1", 1, 2);
        trace(Check.TORUS, "1 1 0", 0, 1);
        // From the first strand of EDGE 0, nearest to the corner between EDGES 2 and 0 of PIECE 0: in PIECE 1 it is the
        // second from there, one strand goes round that corner, so it goes on round the next one, over EDGE 1.
        trace(Check.TORUS, "2 1 1", 0, 1, 0, 2);
        trace(Check.TORUS, "1 2 1", 0, 1, 2, 1);
        trace(Check.TORUS, "2 2 2", 0, 1, 2, 0, 1, 2);
        // of several LOOPS only the one that begins first
        trace(Check.TORUS, "0 5 5", 1, 2);
        trace(Check.FOUR_POINTS, "1 0 0 0 0 0", 0);
        trace(Check.FOUR_POINTS, "0 0 1 1 0 0", 2, 3);
        trace(Check.FOUR_POINTS, "1 2 2 0 2 1", 0, 1, 2, 4, 5, 4, 2, 1);
        trace(Check.TWO_HANDLES, "0 1 0 0 1 1 0 0 0", 1, 5, 4);
    }

    private static void tooLong() {
        LoopGround x = Check.on(Check.TORUS_LINES);
        x.lay(1);
        x.twist(0, 99);
        x.twist(2, 45);
        long all = x.number(-1, 0) + x.number(-1, 1) + x.number(-1, 2);
        Check.due("less than 18000", all <= 18000, true);
        Check.due("loops", x.loops(-1, 0), 1);
        Check.due("the last one traced", x.traced(-1, (int) all - 1) >= 0, true);
        Check.due("none behind it", x.traced(-1, (int) all), LoopGround.NONE);
        x.twist(2, 99);
        all = x.number(-1, 0) + x.number(-1, 1) + x.number(-1, 2);
        Check.due("more than 18000", all > 18000, true);
        Check.due("loops", x.loops(-1, 0), -2);
        Check.due("rings", x.loops(-1, 1), -2);
        Check.due("single", x.loops(-1, 2), -2);
        Check.due("another what", x.loops(-1, 3), LoopGround.NONE);
        Check.due("traced", x.traced(-1, 0), -2);
        Check.due("told lines still", x.loops(0, 2), 1);
        exactly18000();
        near18000();
    }

    private static void exactly18000() {
        LoopGround x = Check.on(Check.TORUS + "line a of 0 1 1;line b of 90 90 0;line c of 91 83 8;");
        x.lay(1);
        Check.due("twist", x.twist(0, 99), 18000);
        Check.due("loops", x.loops(-1, 0), 90);
        Check.due("traced", x.traced(-1, 0), 0);
        x.lay(2);
        Check.due("twist", x.twist(0, 98), 18002);
        Check.due("loops", x.loops(-1, 0), -2);
        Check.due("traced", x.traced(-1, 0), -2);
    }

    /** Numbers that are together 18000, 18001 and 18002, found by trying how lines on two handles are twisted. */
    private static void near18000() {
        LoopGround x = Check.on(Check.TWO_HANDLES + "line a of 1 0 0 0 1 0 0 0 0;line b of 0 1 0 0 1 1 0 0 0;"
            + "line c of 0 0 1 0 0 0 0 1 1;line d of 0 0 0 1 0 0 0 0 1;");
        boolean[] found = new boolean[3];
        java.util.Random random = new java.util.Random(5);
        for (int tries = 0; tries < 400000 && !(found[0] && found[1] && found[2]); tries++) {
            x.lay(random.nextInt(2));
            long all = 0;
            for (int k = 0; k < 8 && all < 18000; k++) {
                all = x.twist(random.nextInt(2), random.nextInt(25) - 12);
            }
            if (all >= 18000 && all <= 18002) {
                found[(int) all - 18000] = true;
                Check.due("loops of " + all, x.loops(-1, 0), all == 18000 ? 1 : -2);
                Check.due("traced of " + all, x.traced(-1, 0) == -2, all != 18000);
            }
        }
        for (int i = 0; i < 3; i++) {
            Check.due("found " + (18000 + i), found[i], true);
        }
    }
}
