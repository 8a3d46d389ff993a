/** Promises 10 to 13: flips, least crossings and crossings by direction. */
public final class CrossTest {
    private static final String TWO = Check.TWO_HANDLES + "line a of 1 0 0 0 1 0 0 0 0;line b of 0 1 0 0 1 1 0 0 0;"
        + "line c of 0 0 1 0 0 0 0 1 1;line d of 0 0 0 1 0 0 0 0 1;line s of 2 2 0 0 2 2 0 0 0;"
        + "line both of 1 0 0 1 1 0 0 0 1;line no of 0 0 0 0 0 0 0 0 0;";

    public static void main(String[] args) {
        flipsOfSome();
        flipsOnTheTorus();
        crossings();
        crossingsOfTheLine();
        spent();
        turns();
        Check.finish(CrossTest.class);
    }

    private static void flips(LoopGround x, int line, int... want) {
        Check.due("flips(" + line + ")", x.flips(line), want.length);
        for (int i = 0; i < want.length; i++) {
            Check.due("flip(" + line + ", " + i + ")", x.flip(line, i), want[i]);
        }
        Check.due("flip behind the last", x.flip(line, want.length), LoopGround.NONE);
        Check.due("flip(most)", x.flip(line, Integer.MAX_VALUE), LoopGround.NONE);
        Check.due("flip(-1)", x.flip(line, -1), LoopGround.NONE);
    }

    private static void noFlips(LoopGround x, int line, int answer) {
        Check.due("flips(" + line + ")", x.flips(line), answer);
        Check.due("flip(" + line + ", 0)", x.flip(line, 0), LoopGround.NONE);
    }

    private static void flipsOfSome() {
        LoopGround x = Check.on(TWO);
        flips(x, 0);
        flips(x, 1, 1);
        flips(x, 2, 2);
        flips(x, 3);
        // a loop that parts the handles and has no point on one side of it can't be short
        noFlips(x, 4, -2);
        noFlips(x, 5, LoopGround.NONE);
        noFlips(x, 6, LoopGround.NONE);
        noFlips(x, 7, LoopGround.NONE);
        noFlips(x, -1, LoopGround.NONE);
        noFlips(x, Integer.MIN_VALUE, LoopGround.NONE);
        LoopGround four = Check.on(Check.FOUR_POINTS + "line c of 1 2 2 0 2 1;line d of 1 2 0 2 2 1;line r of 1 0 0 0 0 0;");
        flips(four, 0, 1, 2, 1, 4, 5);
        flips(four, 1, 1, 3, 1, 4, 5);
        noFlips(four, 2, LoopGround.NONE);
    }

    private static void flipsOnTheTorus() {
        LoopGround x = Check.on(Check.TORUS + "line a of 1 2 1;line b of 5 3 2;line c of 1 99 98;line d of 2 2 4;");
        flips(x, 0, 1);
        // 5 3 2 -> 1 3 2 -> 1 1 2 -> 1 1 0: the greatest is what the others are together, then less what it was
        flips(x, 1, 0, 1, 2);
        // 1 99 98: 99 and 98 go down by two in turn, till 1 1 0 is left
        Check.due("flips of 1 99 98", x.flips(2), 98);
        for (int i = 0; i < 98; i++) {
            Check.due("flip(2, " + i + ")", x.flip(2, i), i % 2 == 0 ? 1 : 2);
        }
        noFlips(x, 3, LoopGround.NONE);
    }

    private static void crossings() {
        LoopGround x = Check.on(TWO);
        int[][] want = {{0, 1, 0, 0}, {1, 0, 0, 0}, {0, 0, 0, 1}, {0, 0, 1, 0}, {0, 0, 0, 0}, {0, 1, 1, 0}, {0, 0, 0, 0}};
        for (int line = 0; line < 7; line++) {
            for (int with = 0; with < 4; with++) {
                Check.due("cross(" + line + ", " + with + ")", x.cross(line, with), want[line][with]);
            }
            Check.due("cross with a stuck one", x.cross(line, 4), LoopGround.NONE);
            Check.due("cross with two loops", x.cross(line, 5), LoopGround.NONE);
            Check.due("cross with nothing", x.cross(line, 6), LoopGround.NONE);
            Check.due("cross with none", x.cross(line, 7), LoopGround.NONE);
            Check.due("cross with the line", x.cross(line, -1), LoopGround.NONE);
        }
        Check.due("cross(7, 0)", x.cross(7, 0), LoopGround.NONE);
        Check.due("cross(-2, 0)", x.cross(-2, 0), LoopGround.NONE);
        // on the torus: numbers are those of slopes, and loops p/q and r/s cross |ps - qr| times
        LoopGround torus = Check.on(Check.TORUS + "line a of 0 1 1;line b of 5 3 2;line c of 3 5 8;line d of 2 2 2;"
            + "line e of 7 4 11;");
        Check.due("cross(1, 0)", torus.cross(1, 0), 5);
        Check.due("cross(2, 1)", torus.cross(2, 1), 34);
        Check.due("cross(1, 2)", torus.cross(1, 2), 34);
        Check.due("cross(2, 4)", torus.cross(2, 4), 23);
        Check.due("cross(4, 2)", torus.cross(4, 2), 23);
        Check.due("cross of a ring", torus.cross(3, 4), 0);
        Check.due("cross with a ring", torus.cross(4, 3), LoopGround.NONE);
        LoopGround four = Check.on(Check.FOUR_POINTS + "line c of 1 2 2 0 2 1;line d of 1 2 0 2 2 1;line r of 1 0 0 0 0 0;");
        Check.due("cross(0, 1)", four.cross(0, 1), 4);
        Check.due("cross(1, 0)", four.cross(1, 0), 4);
        Check.due("cross(2, 0)", four.cross(2, 0), 0);
    }

    private static void crossingsOfTheLine() {
        LoopGround x = Check.on(TWO);
        Check.due("cross(-1, 0)", x.cross(-1, 0), 0);
        x.lay(0);
        Check.due("cross(-1, 1)", x.cross(-1, 1), 1);
        for (int times = -99; times <= 99; times += 18) {
            x.twist(1, times);
            Check.due("a twisted along b crosses a", x.cross(-1, 0), Math.abs(times));
            Check.due("a twisted along b crosses b", x.cross(-1, 1), 1);
            x.undo();
        }
    }

    private static void spent() {
        LoopGround x = Check.on(Check.TORUS + "line a of 0 1 1;line b of 1 0 1;line far of 99 98 1;");
        x.lay(0);
        boolean grows = true;
        for (int k = 0; k < 40 && grows; k++) {
            grows = x.twist(k % 2 == 0 ? 1 : 0, 9) != -2;
        }
        Check.due("twist at last is spent", grows, false);
        Check.due("cross with a near one", x.cross(-1, 1) > 0, true);
        Check.due("cross with a far one", x.cross(-1, 2), -2);
        Check.due("cross with one that is none", x.cross(-1, 3), LoopGround.NONE);
    }

    private static void turns() {
        LoopGround x = Check.on(TWO);
        int[][] want = {{0, 1, 0, 0, 0}, {-1, 0, 0, 0, 0}, {0, 0, 0, 1, 0}, {0, 0, -1, 0, 0}, {0, 0, 0, 0, 0}};
        for (int a = 0; a < 5; a++) {
            for (int b = 0; b < 5; b++) {
                Check.due("across(" + a + ", " + b + ")", x.across(a, b), want[a][b]);
            }
            Check.due("across two loops", x.across(a, 5), LoopGround.GAP);
            Check.due("two loops across", x.across(5, a), LoopGround.GAP);
            Check.due("across nothing", x.across(a, 6), LoopGround.GAP);
            Check.due("across none", x.across(a, 7), LoopGround.GAP);
            Check.due("none across", x.across(-1, a), LoopGround.GAP);
        }
        LoopGround torus = Check.on(Check.TORUS_LINES + "line d of 5 3 2;line e of 3 5 8;line r of 2 2 2;");
        // a leaves PIECE 0 over EDGE 1, b and c over EDGE 0, and they come back over 2, 2 and 1
        int[][] slopes = {{0, -1, -1}, {1, 0, -1}, {1, 1, 0}};
        for (int a = 0; a < 3; a++) {
            for (int b = 0; b < 3; b++) {
                Check.due("across(" + a + ", " + b + ")", torus.across(a, b), slopes[a][b]);
            }
        }
        Check.due("across(3, 4)", Math.abs(torus.across(3, 4)), 34);
        Check.due("across(4, 3)", torus.across(4, 3), -torus.across(3, 4));
        Check.due("across a ring", torus.across(0, 5), LoopGround.GAP);
    }
}
