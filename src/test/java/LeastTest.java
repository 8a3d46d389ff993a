/** Promises 20 and 21: the least line that a word keeps, and the row that lies there. */
public final class LeastTest {
    private static final String TWELVE = "piece 0 1 2;piece 0 1 3;piece 2 4 5;piece 3 4 6;piece 5 7 8;piece 6 7 9;"
        + "piece 8 10 11;piece 9 10 12;piece 11 13 14;piece 12 13 15;piece 14 16 17;piece 15 16 17;";

    public static void main(String[] args) {
        onTheTorus();
        notARingAlone();
        withARing();
        onTwoHandles();
        tooManyRows();
        wrongCalls();
        Check.finish(LeastTest.class);
    }

    private static void least(LoopGround x, int word, int m, int... want) {
        int sum = 0;
        for (int n : want) {
            sum += n;
        }
        Check.due("least(" + word + ", " + m + ")", x.least(word, m), sum);
        for (int edge = 0; edge < want.length; edge++) {
            Check.due("lies(" + edge + ")", x.lies(edge), want[edge]);
        }
        Check.due("lies behind the last", x.lies(want.length), LoopGround.NONE);
        Check.due("lies(-1)", x.lies(-1), LoopGround.NONE);
        Check.due("lies(most)", x.lies(Integer.MAX_VALUE), LoopGround.NONE);
    }

    private static void none(LoopGround x, int word, int m, int answer) {
        Check.due("least(" + word + ", " + m + ")", x.least(word, m), answer);
        for (int edge = 0; edge < 18; edge++) {
            Check.due("lies(" + edge + ")", x.lies(edge), LoopGround.NONE);
        }
    }

    private static void onTheTorus() {
        LoopGround x = Check.on(Check.TORUS_LINES + "line d of 3 2 1;line e of 2 2 4;word a is a 1;word b is b -3;"
            + "word d is d 2;word s is a 1 b 1;word i is c 1 c -1;word e is e 1;");
        Check.due("no row at first", x.lies(0), LoopGround.NONE);
        for (int m = 1; m <= 3; m++) {
            least(x, 0, m, 0, 1, 1);
            least(x, 1, m, 1, 0, 1);
            least(x, 4, m, 0, 1, 1);
            none(x, 3, m, LoopGround.NONE);
            none(x, 5, m, LoopGround.NONE);
        }
        none(x, 2, 1, LoopGround.NONE);
        none(x, 2, 2, LoopGround.NONE);
        least(x, 2, 3, 3, 2, 1);
    }

    private static void notARingAlone() {
        // By a turn no loop is kept; the RING of 2 2 2 is, but is none that counts.
        LoopGround x = Check.on(Check.TORUS_LINES + "word s is a 1 b 1;");
        none(x, 0, 2, LoopGround.NONE);
        none(x, 0, 3, LoopGround.NONE);
    }

    private static void withARing() {
        // 0 0 1 1 0 0 is a RING, so the first row by its numbers is no answer.
        LoopGround x = Check.on(Check.FOUR_POINTS + "line c of 1 2 2 0 2 1;line d of 1 2 0 2 2 1;word c is c 1;"
            + "word d is d 1;word b is c 1 d -1;");
        none(x, 0, 1, LoopGround.NONE);
        least(x, 0, 2, 1, 2, 2, 0, 2, 1);
        least(x, 1, 2, 1, 2, 0, 2, 2, 1);
        least(x, 1, 3, 1, 2, 0, 2, 2, 1);
        none(x, 2, 3, LoopGround.NONE);
    }

    private static void onTwoHandles() {
        LoopGround x = Check.on(Check.TWO_HANDLES + "line a of 1 0 0 0 1 0 0 0 0;line b of 0 1 0 0 1 1 0 0 0;"
            + "line c of 0 0 1 0 0 0 0 1 1;line d of 0 0 0 1 0 0 0 0 1;word r is a 1 b 1;word u is c 1 d -1;"
            + "word v is a 1 c 1;word w is a 1 b -1 c 1 d -1;");
        least(x, 0, 1, 0, 0, 0, 1, 0, 0, 0, 0, 1);
        least(x, 1, 1, 0, 1, 0, 0, 1, 1, 0, 0, 0);
        least(x, 2, 1, 0, 0, 1, 0, 0, 0, 0, 1, 1);
        // only what parts the handles stays: the first row tells it from the other side
        least(x, 3, 2, 0, 0, 2, 2, 0, 0, 0, 2, 2);
        none(x, 3, 1, LoopGround.NONE);
        none(x, 3, 3, -2);
        none(x, 0, 3, -2);
    }

    private static void tooManyRows() {
        LoopGround x = Check.on(TWELVE + "line a of 1 1 0 0 0 0 0 0 0 0 0 0 0 0 0 0 0 0;"
            + "word a is a 1;");
        Check.due("flips(0)", x.flips(0), 0);
        none(x, 0, 1, -2);
        none(x, 0, 3, -2);
        // 10 pieces, 15 edges: 32768 rows are not too many, 14348907 are
        LoopGround y = Check.on("piece 0 1 2;piece 0 1 3;piece 2 4 5;piece 3 4 6;piece 5 7 8;piece 6 7 9;"
            + "piece 8 10 11;piece 9 10 12;piece 11 13 14;piece 12 13 14;line a of 1 1 0 0 0 0 0 0 0 0 0 0 0 0 0;"
            + "word a is a 1;");
        Check.due("least(0, 1)", y.least(0, 1) > 0, true);
        Check.due("it lies there", y.lies(0) >= 0, true);
        none(y, 0, 2, -2);
    }

    private static void wrongCalls() {
        LoopGround x = Check.on(Check.TORUS_LINES + "line r of 2 2 2;word a is a 1;word r is r 1;");
        int[][] wrong = {{0, 0}, {0, 4}, {0, -1}, {0, Integer.MAX_VALUE}, {1, 1}, {2, 1}, {-1, 1}, {1, 4}};
        for (int[] w : wrong) {
            least(x, 0, 1, 0, 1, 1);
            none(x, w[0], w[1], LoopGround.NONE);
        }
    }
}
