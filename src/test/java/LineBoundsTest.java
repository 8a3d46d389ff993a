/** Promises 6 to 13 at their edges: the last call that has an answer, the first that has none. */
public final class LineBoundsTest {
    private static final int NONE = LoopGround.NONE;
    private static final int GAP = LoopGround.GAP;
    private static final int MOST = Integer.MAX_VALUE;
    private static final int LEAST = Integer.MIN_VALUE;
    /** Not FAIR, for a reason each: two LOOPS, nothing, a RING, a LOOP and a RING; then two that are FAIR. */
    private static final String UNFAIR = Check.TORUS + "line two of 0 2 2;line no of 0 0 0;line ring of 2 2 2;"
        + "line more of 2 3 3;line a of 0 1 1;line b of 1 0 1;";

    public static void main(String[] args) {
        points();
        pointsOfEmpty();
        numbers();
        loops();
        tracedEdges();
        flips();
        unfairFlips();
        shortOnes();
        crosses();
        crossSpent();
        turns();
        Check.finish(LineBoundsTest.class);
    }

    private static void points() {
        LoopGround x = Check.on(Check.FULL);
        Check.due("point(0, 0)", x.point(0, 0), 0);
        Check.due("point(11, 0)", x.point(11, 0), 0);
        Check.due("point(11, 2)", x.point(11, 2), 0);
        Check.due("point(12, 0)", x.point(12, 0), NONE);
        Check.due("point(-1, 0)", x.point(-1, 0), NONE);
        Check.due("point(11, 3)", x.point(11, 3), NONE);
        Check.due("point(11, -1)", x.point(11, -1), NONE);
        Check.due("point(0, -1)", x.point(0, -1), NONE);
        Check.due("point(1, -1)", x.point(1, -1), NONE);
        Check.due("point(0, 3)", x.point(0, 3), NONE);
        Check.due("point(most, 0)", x.point(MOST, 0), NONE);
        Check.due("point(least, 0)", x.point(LEAST, 0), NONE);
        Check.due("point(0, most)", x.point(0, MOST), NONE);
        Check.due("point(0, least)", x.point(0, LEAST), NONE);
        // 3 * 1431655766 + 2 is 4 in 32 bits
        Check.due("point(1431655766, 2)", x.point(1431655766, 2), NONE);
        // as many POINTS as can be: eight, numbered by their first corner
        LoopGround sphere = Check.on("piece 0 0 1;piece 2 2 3;piece 1 3 4;piece 4 5 6;piece 5 7 7;piece 6 8 9;piece 8 10 10;"
            + "piece 9 11 12;piece 11 13 13;piece 12 14 15;piece 14 16 16;piece 15 17 17;");
        Check.due("points", sphere.about(2), 8);
        Check.due("handles", sphere.about(3), 0);
        int told = 0;
        for (int corner = 0; corner < 36; corner++) {
            int point = sphere.point(corner / 3, corner % 3);
            Check.due("a point told already or the next", point >= 0 && point <= told, true);
            told = Math.max(told, point + 1);
        }
        Check.due("points at corners", told, 8);
        Check.due("the first one, all alone", sphere.point(0, 0), 0);
        Check.due("the one next to it", sphere.point(0, 1), 1);
        Check.due("the same", sphere.point(0, 2), 1);
        Check.due("the last one, all alone", sphere.point(11, 1), 7);
    }

    private static void pointsOfEmpty() {
        LoopGround x = new LoopGround();
        Check.due("point(0, 0)", x.point(0, 0), NONE);
        LoopGround torus = Check.on(Check.TORUS);
        Check.due("point(1, 2)", torus.point(1, 2), 0);
        Check.due("point(2, 0)", torus.point(2, 0), NONE);
    }

    private static void numbers() {
        LoopGround x = Check.on(Check.FULL);
        Check.due("number(7, 4)", x.number(7, 4), 1);
        Check.due("number(6, 17)", x.number(6, 17), 1);
        Check.due("number(7, 17)", x.number(7, 17), 0);
        Check.due("number(7, 18)", x.number(7, 18), -2);
        Check.due("number(7, -1)", x.number(7, -1), -2);
        Check.due("number(8, 0)", x.number(8, 0), -2);
        Check.due("number(-2, 0)", x.number(-2, 0), -2);
        Check.due("number(-1, 17)", x.number(-1, 17), 0);
        Check.due("number(-1, 18)", x.number(-1, 18), -2);
        Check.due("number(-1, -1)", x.number(-1, -1), -2);
        Check.due("number(-2, 18)", x.number(-2, 18), -2);
        Check.due("number(least, 0)", x.number(LEAST, 0), -2);
        Check.due("number(0, least)", x.number(0, LEAST), -2);
        x.lay(6);
        Check.due("number(-1, 17)", x.number(-1, 17), 1);
        LoopGround empty = new LoopGround();
        Check.due("number(-1, 0)", empty.number(-1, 0), -2);
        Check.due("number(0, 0)", empty.number(0, 0), -2);
        LoopGround bare = Check.on(Check.TORUS);
        Check.due("number(0, 0)", bare.number(0, 0), -2);
        Check.due("number(-1, 2)", bare.number(-1, 2), 0);
        Check.due("number(-1, 3)", bare.number(-1, 3), -2);
    }

    private static void loops() {
        LoopGround x = Check.on(UNFAIR);
        int[][] want = {{2, 0, 0}, {0, 0, 0}, {1, 1, 0}, {2, 1, 0}, {1, 0, 1}, {1, 0, 1}};
        for (int line = 0; line < 6; line++) {
            for (int what = 0; what < 3; what++) {
                Check.due("loops(" + line + ", " + what + ")", x.loops(line, what), want[line][what]);
            }
            Check.due("loops(" + line + ", 3)", x.loops(line, 3), NONE);
            Check.due("loops(" + line + ", -1)", x.loops(line, -1), NONE);
        }
        for (int what = 0; what < 3; what++) {
            Check.due("loops(-1, " + what + ")", x.loops(-1, what), 0);
            Check.due("loops(6, " + what + ")", x.loops(6, what), NONE);
            Check.due("loops(-2, " + what + ")", x.loops(-2, what), NONE);
        }
        Check.due("loops(-1, 3)", x.loops(-1, 3), NONE);
        Check.due("loops(-1, most)", x.loops(-1, MOST), NONE);
        LoopGround full = Check.on(Check.FULL);
        Check.due("loops(7, 2)", full.loops(7, 2), 1);
        Check.due("loops(8, 2)", full.loops(8, 2), NONE);
        // as many as a told LINE can have: 99 strands over each EDGE that is crossed
        LoopGround many = Check.on(Check.TORUS + "line a of 0 99 99;line b of 98 98 98;");
        Check.due("loops", many.loops(0, 0), 99);
        Check.due("rings", many.loops(0, 1), 0);
        Check.due("loops of rings", many.loops(1, 0), 49);
        Check.due("rings of rings", many.loops(1, 1), 49);
    }

    private static void tracedEdges() {
        LoopGround x = Check.on(UNFAIR);
        Check.due("traced nothing", x.traced(1, 0), NONE);
        Check.due("traced the line, nothing yet", x.traced(-1, 0), NONE);
        Check.due("traced(4, 0)", x.traced(4, 0), 1);
        Check.due("traced(4, 1)", x.traced(4, 1), 2);
        Check.due("traced(4, 2)", x.traced(4, 2), NONE);
        Check.due("traced(4, -1)", x.traced(4, -1), NONE);
        Check.due("traced(4, least)", x.traced(4, LEAST), NONE);
        Check.due("traced(4, most)", x.traced(4, MOST), NONE);
        Check.due("traced(6, 0)", x.traced(6, 0), NONE);
        Check.due("traced(-2, 0)", x.traced(-2, 0), NONE);
        // of two LOOPS the first alone, though four EDGES are crossed in all
        Check.due("traced(0, 1)", x.traced(0, 1), 2);
        Check.due("traced(0, 2)", x.traced(0, 2), NONE);
        // the RING of 2 3 3 and its LOOP: from EDGE 0 on the RING, 6 EDGES of 8
        Check.due("traced(3, 5) is there", x.traced(3, 5) >= 0, true);
        Check.due("traced(3, 6)", x.traced(3, 6), NONE);
        LoopGround full = Check.on(Check.FULL);
        Check.due("traced(6, 0)", full.traced(6, 0), 16);
        Check.due("traced(6, 1)", full.traced(6, 1), 17);
        Check.due("traced(6, 2)", full.traced(6, 2), NONE);
        LoopGround one = Check.on(Check.FOUR_POINTS + "line r of 1 0 0 0 0 0;");
        Check.due("traced(0, 0)", one.traced(0, 0), 0);
        Check.due("traced(0, 1)", one.traced(0, 1), NONE);
    }

    private static void flips() {
        LoopGround x = Check.on(Check.FULL);
        Check.due("flips of a short one", x.flips(0), 0);
        Check.due("flip(0, 0)", x.flip(0, 0), NONE);
        Check.due("flip(0, -1)", x.flip(0, -1), NONE);
        Check.due("flips(1)", x.flips(1), 2);
        // EDGES 0 and 1 would not get less, 2 does; then 0 .. 2 would not, 3 does
        Check.due("flip(1, 0)", x.flip(1, 0), 2);
        Check.due("flip(1, 1)", x.flip(1, 1), 3);
        Check.due("flip(1, 2)", x.flip(1, 2), NONE);
        Check.due("flip(1, -1)", x.flip(1, -1), NONE);
        Check.due("flip(1, most)", x.flip(1, MOST), NONE);
        Check.due("flip(1, least)", x.flip(1, LEAST), NONE);
        // h crosses 0, 2, 4, 3 and no FLIP makes that less
        Check.due("flips of a stuck one", x.flips(7), -2);
        Check.due("flip of a stuck one", x.flip(7, 0), NONE);
        Check.due("single, though stuck", x.loops(7, 2), 1);
        Check.due("flips(8)", x.flips(8), NONE);
        Check.due("flips(-1)", x.flips(-1), NONE);
        Check.due("flip(8, 0)", x.flip(8, 0), NONE);
        Check.due("flip(-1, 0)", x.flip(-1, 0), NONE);
        x.lay(1);
        Check.due("flips of the line: it is not told", x.flips(-1), NONE);
        Check.due("flip of the line", x.flip(-1, 0), NONE);
        Check.due("flips(most)", x.flips(MOST), NONE);
        Check.due("flips(least)", x.flips(LEAST), NONE);
    }

    private static void unfairFlips() {
        LoopGround x = Check.on(UNFAIR);
        for (int line = 0; line < 4; line++) {
            Check.due("flips(" + line + ")", x.flips(line), NONE);
            Check.due("flip(" + line + ", 0)", x.flip(line, 0), NONE);
        }
        Check.due("flips(4)", x.flips(4), 0);
        Check.due("flips(5)", x.flips(5), 0);
    }

    private static void shortOnes() {
        // two EDGES, once each, are SHORT; one that is crossed twice is not
        LoopGround x = Check.on(Check.TORUS + "line a of 1 1 0;line b of 1 1 2;line c of 1 2 1;line d of 2 1 1;");
        Check.due("flips(0)", x.flips(0), 0);
        for (int line = 1; line < 4; line++) {
            Check.due("flips(" + line + ")", x.flips(line), 1);
            Check.due("flip(" + line + ", 0)", x.flip(line, 0), 3 - line);
        }
        // as long a way as the greatest numbers of a torus have
        LoopGround far = Check.on(Check.TORUS + "line a of 98 99 1;line b of 99 98 1;line c of 1 98 99;");
        Check.due("flips(0)", far.flips(0), 98);
        Check.due("flip(0, 97) is there", far.flip(0, 97) >= 0, true);
        Check.due("flip(0, 98)", far.flip(0, 98), NONE);
        Check.due("flips(1)", far.flips(1), 98);
        Check.due("flips(2)", far.flips(2), 98);
    }

    private static void crosses() {
        LoopGround x = Check.on(UNFAIR);
        for (int line = -1; line < 6; line++) {
            for (int with = 0; with < 4; with++) {
                Check.due("cross(" + line + ", " + with + ")", x.cross(line, with), NONE);
            }
            Check.due("cross(" + line + ", 6)", x.cross(line, 6), NONE);
            Check.due("cross(" + line + ", -1)", x.cross(line, -1), NONE);
        }
        int[] withA = {0, 0, 0, 0, 0, 1};
        int[] withB = {2, 0, 0, 1, 1, 0};
        for (int line = 0; line < 6; line++) {
            Check.due("cross(" + line + ", 4)", x.cross(line, 4), withA[line]);
            Check.due("cross(" + line + ", 5)", x.cross(line, 5), withB[line]);
        }
        Check.due("cross(-1, 4)", x.cross(-1, 4), 0);
        Check.due("cross(6, 4)", x.cross(6, 4), NONE);
        Check.due("cross(-2, 4)", x.cross(-2, 4), NONE);
        Check.due("cross(4, most)", x.cross(4, MOST), NONE);
        Check.due("cross(least, 4)", x.cross(LEAST, 4), NONE);
        LoopGround full = Check.on(Check.FULL);
        Check.due("cross(7, 6)", full.cross(7, 6), 0);
        Check.due("cross(7, 0)", full.cross(7, 0), 1);
        Check.due("cross(8, 6)", full.cross(8, 6), NONE);
        Check.due("cross(6, 7): stuck", full.cross(6, 7), NONE);
        Check.due("cross(6, 8)", full.cross(6, 8), NONE);
    }

    /** With 2 1 1 made SHORT, EDGE 0 of p, q, p + q comes to p + 2 q: at 10^14 that is an answer, above it is SPENT. */
    private static void crossSpent() {
        for (long sum = Slopes.LIMIT - 1; sum <= Slopes.LIMIT + 2; sum++) {
            LoopGround x = Check.on(Check.TORUS_LINES + "line d of 2 1 1;");
            long[] row = Slopes.rowWith(sum, 0.41421356, 2);
            Slopes.growTo(x, row[0], row[1]);
            Check.numbers(x, NONE, row[0], row[1], row[0] + row[1]);
            Check.due("flips(3)", x.flips(3), 1);
            Check.due("cross with " + sum, x.cross(NONE, 3), sum > Slopes.LIMIT ? -2 : sum);
            Check.due("cross with a short one", x.cross(NONE, 0), row[0]);
            Check.due("cross(-1, 4)", x.cross(NONE, 4), NONE);
            Check.numbers(x, NONE, row[0], row[1], row[0] + row[1]);
        }
    }

    private static void turns() {
        LoopGround x = Check.on(UNFAIR);
        for (int other = -1; other <= 6; other++) {
            for (int line = 0; line < 4; line++) {
                Check.due("across(" + line + ", " + other + ")", x.across(line, other), GAP);
                Check.due("across(" + other + ", " + line + ")", x.across(other, line), GAP);
            }
        }
        Check.due("across(4, 5)", x.across(4, 5), -1);
        Check.due("across(5, 4)", x.across(5, 4), 1);
        Check.due("across(4, 4)", x.across(4, 4), 0);
        Check.due("across(4, 6)", x.across(4, 6), GAP);
        Check.due("across(6, 4)", x.across(6, 4), GAP);
        Check.due("across(4, -1)", x.across(4, -1), GAP);
        Check.due("across(-1, 4)", x.across(-1, 4), GAP);
        Check.due("across(most, least)", x.across(MOST, LEAST), GAP);
        LoopGround full = Check.on(Check.FULL);
        // a SINGLE LINE that is STUCK has TURNS all the same
        Check.due("across(7, 0)", full.across(7, 0), -1);
        Check.due("across(0, 7)", full.across(0, 7), 1);
        Check.due("across(7, 7)", full.across(7, 7), 0);
        Check.due("across(8, 7)", full.across(8, 7), GAP);
        // the greatest that two told LINES of a torus can have
        LoopGround far = Check.on(Check.TORUS + "line a of 99 98 1;line b of 1 98 99;");
        Check.due("across is as many as cross", Math.abs(far.across(0, 1)), far.cross(0, 1));
        Check.due("cross", far.cross(0, 1), 99 * 98 + 98);
    }
}
