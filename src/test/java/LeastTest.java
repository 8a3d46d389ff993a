/** Promises 20 and 21: the least line that a word keeps, and the row that lies there. */
public final class LeastTest {
    public static void main(String[] args) {
        onTheTorus();
        notARingAlone();
        withARing();
        onTwoHandles();
        tooManyRows();
        spentOnTheWay();
        justTheGreatestNumber();
        whatLies();
        wrongCalls();
        Check.finish(LeastTest.class);
    }

    private static void least(LoopGround x, int word, int m, int... want) {
        int sum = 0;
        for (int n : want) {
            sum += n;
        }
        Check.due("least(" + word + ", " + m + ")", x.least(word, m), sum);
        for (int edge = 0; edge < want.length; edge++) {
            Check.due("lies(" + edge + ")", x.lies(edge), want[edge]);
        }
        Check.due("lies behind the last", x.lies(want.length), LoopGround.NONE);
        Check.due("lies(-1)", x.lies(-1), LoopGround.NONE);
        Check.due("lies(most)", x.lies(Integer.MAX_VALUE), LoopGround.NONE);
    }

    private static void none(LoopGround x, int word, int m, int answer) {
        Check.due("least(" + word + ", " + m + ")", x.least(word, m), answer);
        for (int edge = 0; edge < 18; edge++) {
            Check.due("lies(" + edge + ")", x.lies(edge), LoopGround.NONE);
        }
    }

    private static void onTheTorus() {
        LoopGround x = Check.on(Check.TORUS_LINES + "line d of 3 2 1;line e of 2 2 4;word a is a 1;word b is b -3;"
            + "word d is d 2;word s is a 1 b 1;word i is c 1 c -1;word e is e 1;");
        Check.due("no row at first", x.lies(0), LoopGround.NONE);
        for (int m = 1; m <= 3; m++) {
            least(x, 0, m, 0, 1, 1);
            least(x, 1, m, 1, 0, 1);
            least(x, 4, m, 0, 1, 1);
            none(x, 3, m, LoopGround.NONE);
            none(x, 5, m, LoopGround.NONE);
        }
        none(x, 2, 1, LoopGround.NONE);
        none(x, 2, 2, LoopGround.NONE);
        least(x, 2, 3, 3, 2, 1);
    }

    private static void notARingAlone() {
        // By a turn no loop is kept; the RING of 2 2 2 is, but is none that counts.
        LoopGround x = Check.on(Check.TORUS_LINES + "word s is a 1 b 1;");
        none(x, 0, 2, LoopGround.NONE);
        none(x, 0, 3, LoopGround.NONE);
    }

    private static void withARing() {
        // 0 0 1 1 0 0 is a RING, so the first row by its numbers is no answer.
        LoopGround x = Check.on(Check.FOUR_POINTS + "line c of 1 2 2 0 2 1;line d of 1 2 0 2 2 1;word c is c 1;"
            + "word d is d 1;word b is c 1 d -1;");
        none(x, 0, 1, LoopGround.NONE);
        least(x, 0, 2, 1, 2, 2, 0, 2, 1);
        least(x, 1, 2, 1, 2, 0, 2, 2, 1);
        least(x, 1, 3, 1, 2, 0, 2, 2, 1);
        none(x, 2, 3, LoopGround.NONE);
    }

    private static void onTwoHandles() {
        LoopGround x = Check.on(Check.TWO_HANDLES + "line a of 1 0 0 0 1 0 0 0 0;line b of 0 1 0 0 1 1 0 0 0;"
            + "line c of 0 0 1 0 0 0 0 1 1;line d of 0 0 0 1 0 0 0 0 1;word r is a 1 b 1;word u is c 1 d -1;"
            + "word v is a 1 c 1;word w is a 1 b -1 c 1 d -1;");
        least(x, 0, 1, 0, 0, 0, 1, 0, 0, 0, 0, 1);
        least(x, 1, 1, 0, 1, 0, 0, 1, 1, 0, 0, 0);
        least(x, 2, 1, 0, 0, 1, 0, 0, 0, 0, 1, 1);
        // only what parts the handles stays: the first row tells it from the other side
        least(x, 3, 2, 0, 0, 2, 2, 0, 0, 0, 2, 2);
        none(x, 3, 1, LoopGround.NONE);
        none(x, 3, 3, -2);
        none(x, 0, 3, -2);
    }

    /** Rows of numbers 0 .. m: 60,000 at most. On 15 EDGES 32,768 with m = 1, on 9 19,683 with m = 2; above, too many. */
    private static void tooManyRows() {
        int[] greatest = {0, 3, 3, 2, 1, 1, 0};
        for (int pairs = 1; pairs <= 6; pairs++) {
            String text = Check.ladder(2 * pairs) + "line a of 1 1" + " 0".repeat(3 * pairs - 2) + ";word a is a 1;";
            LoopGround x = Check.on(text);
            Check.due("edges", x.about(1), 3 * pairs);
            for (int m = 1; m <= 3; m++) {
                if (m > greatest[pairs]) {
                    none(x, 0, m, -2);
                } else {
                    asTheModelHasIt(x, text, m);
                }
            }
            none(x, 0, 4, LoopGround.NONE);
            none(x, 0, 0, LoopGround.NONE);
            none(x, 1, 1, LoopGround.NONE);
            none(x, 1, 3, LoopGround.NONE);
        }
    }

    private static void asTheModelHasIt(LoopGround x, String text, int m) {
        Model model = Model.on(text);
        int want = model.least(0, m);
        Check.due("there is one", want > 0, true);
        Check.due("least(0, " + m + ") on " + x.about(1) + " edges", x.least(0, m), want);
        for (int edge = -1; edge <= x.about(1); edge++) {
            Check.due("lies(" + edge + ")", x.lies(edge), model.lies(edge));
        }
    }

    /** A row that is SPENT on its way is not left as it is, though it would come back. */
    private static void spentOnTheWay() {
        String lines = Check.TORUS + "line a of 0 1 1;line b of 1 0 1;line g of 99 98 1;line h of 1 98 99;";
        LoopGround x = Check.on(lines + "word w is g 9 h 9 g 9 h 9 h -9 g -9 h -9 g -9;word i is g 9 g -9;");
        Check.due("spent", x.stretch(0, 0, 0), -2);
        Check.due("not spent", x.stretch(1, 0, 0), 1000);
        least(x, 1, 3, 0, 1, 1);
        none(x, 0, 1, LoopGround.NONE);
        none(x, 0, 3, LoopGround.NONE);
    }

    /** The greatest number that may lie there is m: 3 2 1 is kept along itself, and no less row is. */
    private static void justTheGreatestNumber() {
        LoopGround x = Check.on(Check.TORUS + "line a of 2 1 1;line b of 3 2 1;line c of 4 3 1;word a is a 1;word b is b 1;"
            + "word c is c 1;");
        none(x, 0, 1, LoopGround.NONE);
        least(x, 0, 2, 2, 1, 1);
        least(x, 0, 3, 2, 1, 1);
        none(x, 1, 2, LoopGround.NONE);
        least(x, 1, 3, 3, 2, 1);
        none(x, 2, 3, LoopGround.NONE);
    }

    private static void whatLies() {
        LoopGround x = Check.on(Check.TORUS_LINES + "word a is a 1;word s is a 1 b 1;");
        none(x, 1, 3, LoopGround.NONE);
        least(x, 0, 1, 0, 1, 1);
        x.lay(2);
        x.go(0);
        x.undo();
        x.image(0);
        x.back(0);
        x.kept(0);
        x.table(0, 0, 0, 0);
        Check.due("it lies there still", x.lies(1), 1);
        Check.feed(x, "$");
        Check.due("ground()", x.ground(), LoopGround.NONE);
        Check.due("it lies there still", x.lies(2), 1);
        Check.due("lies(-1)", x.lies(-1), LoopGround.NONE);
        Check.due("lies(3)", x.lies(3), LoopGround.NONE);
        Check.due("lies(least)", x.lies(Integer.MIN_VALUE), LoopGround.NONE);
        Check.feed(x, Check.TORUS_LINES);
        x.ground();
        for (int edge = -1; edge <= 3; edge++) {
            Check.due("no row lies there then", x.lies(edge), LoopGround.NONE);
        }
    }

    private static void wrongCalls() {
        LoopGround x = Check.on(Check.TORUS_LINES + "line r of 2 2 2;word a is a 1;word r is r 1;");
        int[][] wrong = {{0, 0}, {0, 4}, {0, -1}, {0, Integer.MAX_VALUE}, {1, 1}, {2, 1}, {-1, 1}, {1, 4}};
        for (int[] w : wrong) {
            least(x, 0, 1, 0, 1, 1);
            none(x, w[0], w[1], LoopGround.NONE);
        }
    }
}
