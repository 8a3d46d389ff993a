/** Promises 14 to 19: what words keep, which are alike, their order, how they stretch, tables and polynomials. */
public final class WordsTest {
    private static final String TWO = Check.TWO_HANDLES + "line a of 1 0 0 0 1 0 0 0 0;line b of 0 1 0 0 1 1 0 0 0;"
        + "line c of 0 0 1 0 0 0 0 1 1;line d of 0 0 0 1 0 0 0 0 1;line s of 2 2 0 0 2 2 0 0 0;"
        + "line both of 1 0 0 1 1 0 0 0 1;";
    private static final String TORUS = Check.TORUS_LINES + "line r of 2 2 2;line no of 0 0 0;";

    public static void main(String[] args) {
        wordsOnTwoHandles();
        wordsOnTheTorus();
        spentWords();
        orders();
        stretches();
        tables();
        polynomials();
        anotherGround();
        Check.finish(WordsTest.class);
    }

    private static void wordsOnTwoHandles() {
        LoopGround x = Check.on(TWO + "word r is a 1 b 1 a 1;word q is b 1 a 1 b 1;word u is a 1 c 1;word v is c 1 a 1;"
            + "word z is s 1;word y is both 1 a 1;");
        int[] kept = {0b11100, 0b11100, 0b10101, 0b10101, -1, -1};
        int[] order = {2, 2, 0, 0, -1, -1};
        int[][] alike = {{1, 1, 0, 0}, {1, 1, 0, 0}, {0, 0, 1, 1}, {0, 0, 1, 1}};
        for (int w = 0; w < 6; w++) {
            Check.due("kept(" + w + ")", x.kept(w), kept[w]);
            Check.due("order(" + w + ")", x.order(w), order[w]);
            for (int v = 0; v < 6; v++) {
                Check.due("alike(" + w + ", " + v + ")", x.alike(w, v), w < 4 && v < 4 ? alike[w][v] : LoopGround.NONE);
            }
        }
        noSuchWord(x, 6);
        noSuchWord(x, -1);
        noSuchWord(x, Integer.MAX_VALUE);
    }

    private static void noSuchWord(LoopGround x, int word) {
        Check.due("kept", x.kept(word), LoopGround.NONE);
        Check.due("alike", x.alike(word, 0), LoopGround.NONE);
        Check.due("alike", x.alike(0, word), LoopGround.NONE);
        Check.due("order", x.order(word), LoopGround.NONE);
        Check.due("stretch", x.stretch(word, 0, 0), LoopGround.NONE);
        Check.due("table", x.table(word, 0, 0, 0), LoopGround.NONE);
        Check.due("polynomial", x.polynomial(word, 0, 0), LoopGround.NONE);
    }

    private static void wordsOnTheTorus() {
        LoopGround x = Check.on(TORUS + "word a is a 1;word s is a 1 b 1;word i is a 2 a -2;word t is b 1 a 1 b 1;"
            + "word n is a 9 a 9 a -9 a -9;word r is r 1;");
        Check.due("kept by a twist", x.kept(0), 0b11001);
        Check.due("kept by a turn", x.kept(1), 0b11000);
        Check.due("kept by nothing done", x.kept(2), 0b11111);
        Check.due("kept along a ring", x.kept(5), LoopGround.NONE);
        Check.due("order of a twist", x.order(0), 0);
        Check.due("order of a turn by a third", x.order(1), 3);
        Check.due("order of nothing done", x.order(2), 1);
        Check.due("order of a turn by a half", x.order(3), 2);
        Check.due("alike: nothing done", x.alike(2, 4), 1);
        Check.due("not alike", x.alike(1, 3), 0);
        Check.due("alike to itself", x.alike(1, 1), 1);
    }

    private static void spentWords() {
        String grow = " is a 9 b -9 a 9 b -9 a 9 b -9 a 9 b -9;";
        LoopGround x = Check.on(TORUS + "line g of 99 98 1;word w" + grow + "word v" + grow
            + "word i is a 1 a -1;word u is a 9 b -9 a 9 b -9 a 9 b -9 a 9 b -8;");
        // Each pair of twists makes numbers some 83 times what they were: 83^8 is above 10^14, 83^4 is not.
        Check.due("stretch by 0", x.stretch(0, 1, 0) / 1000 > 83 * 83 * 83, true);
        Check.due("stretch by 1", x.stretch(0, 1, 1), -2);
        Check.due("stretch by 20", x.stretch(0, 1, 20), -2);
        Check.due("a spent line is kept no more", x.kept(0), 0b011000);
        Check.due("order", x.order(0), 0);
        Check.due("alike", x.alike(0, 1), 1);
        Check.due("not alike, of one it is spent", x.alike(0, 2), 0);
        Check.due("not alike", x.alike(0, 3), 0);
        LoopGround y = Check.on(Check.TORUS + "line g of 99 98 1;line h of 1 98 99;word w is g 9 h 9 g 9 h 9 g 9 h 9;"
            + "word v is h 9 g 9 h 9 g 9 h 9 g 9;word i is g 1 g -1;");
        Check.due("both lines are spent by both", y.alike(0, 1), 1);
        Check.due("spent by one", y.alike(0, 2), 0);
        Check.due("none is kept", y.kept(0), 0);
        Check.due("order", y.order(0), 0);
        Check.due("stretch", y.stretch(0, 0, 0), -2);
        Check.due("table", y.table(0, 0, 0, 0), -2);
        Check.due("table, once more", y.table(0, 0, 1, 2), -2);
        Check.due("table: no such row", y.table(0, 0, 3, 0), LoopGround.NONE);
        Check.due("polynomial", y.polynomial(0, 0, 3), -2);
        Check.due("polynomial: no such power", y.polynomial(0, 0, 4), LoopGround.NONE);
    }

    private static void orders() {
        LoopGround x = Check.on(TWO + "word w is a 1 b 1;word v is a 1 b 1 c 1 d 1 c 1;word u is a 1 b 1 c 1 d 1;"
            + "word t is a 1 b -1;");
        Check.due("order of a third", x.order(0), 3);
        Check.due("order of a third and a half", x.order(1), 6);
        Check.due("order of two thirds", x.order(2), 3);
        Check.due("no order", x.order(3), 0);
        LoopGround y = Check.on(Check.TORUS_LINES + "word w is a 1 b 1 a 1 b 1;word v is a -1;");
        Check.due("order", y.order(0), 3);
        Check.due("order", y.order(1), 0);
    }

    private static void stretches() {
        LoopGround x = Check.on(TORUS + "word w is a 1 b -1;word r is r 1;");
        // 2, 2, 6, 16, 42, 110: the pairs grow by (3 + the root of 5) / 2
        long[] want = {1000, 3000, 2666, 2625, 2619, 2618};
        for (int n = 0; n <= 20; n++) {
            Check.due("stretch by " + n, x.stretch(0, 0, n), n < want.length ? want[n] : 2618);
        }
        Check.due("stretch by 21", x.stretch(0, 0, 21), LoopGround.NONE);
        Check.due("stretch by -1", x.stretch(0, 0, -1), LoopGround.NONE);
        Check.due("stretch of a ring", x.stretch(0, 3, 7), 1000);
        Check.due("stretch of nothing", x.stretch(0, 4, 0), LoopGround.NONE);
        Check.due("stretch of none", x.stretch(0, 5, 0), LoopGround.NONE);
        Check.due("stretch of the line", x.stretch(0, -1, 0), LoopGround.NONE);
        Check.due("stretch by a word that is not fair", x.stretch(1, 0, 0), LoopGround.NONE);
    }

    private static void tables() {
        LoopGround x = Check.on(TORUS + "word w is a 1 b -1;word i is a 1 a -1;word r is r 1;");
        int m = 1000003;
        // a: along 0 1 1, with a = b = 0, f = 1, e = 2; of (0 1 1) 2 f is greater: f = 2 f - e, e = f
        // b: along 1 0 1, with a = b = 1, f = 2, e = 0; of (0 1 1) the greater of 2 and 0 is a + b: e = 2 a - f, f = e
        int[][] want = {{0, 3, m - 2}, {0, 2, m - 1}, {1, 0, 0}};
        int[][] one = {{1, 0, 0}, {0, 1, 0}, {0, 0, 1}};
        for (int i = 0; i < 3; i++) {
            for (int j = 0; j < 3; j++) {
                Check.due("table(0, 0, " + i + ", " + j + ")", x.table(0, 0, i, j), want[i][j]);
                Check.due("table(1, 3, " + i + ", " + j + ")", x.table(1, 3, i, j), one[i][j]);
            }
        }
        Check.due("table(0, 0, 3, 0)", x.table(0, 0, 3, 0), LoopGround.NONE);
        Check.due("table(0, 0, 0, 3)", x.table(0, 0, 0, 3), LoopGround.NONE);
        Check.due("table(0, 0, -1, 0)", x.table(0, 0, -1, 0), LoopGround.NONE);
        Check.due("table(0, 0, 0, -1)", x.table(0, 0, 0, -1), LoopGround.NONE);
        Check.due("table of nothing", x.table(0, 4, 0, 0), LoopGround.NONE);
        Check.due("table of none", x.table(0, 5, 0, 0), LoopGround.NONE);
        Check.due("table of the line", x.table(0, -1, 0, 0), LoopGround.NONE);
        Check.due("table of a word that is not fair", x.table(2, 0, 0, 0), LoopGround.NONE);
        likeParts();
    }

    /** Of like parts x + z is taken in a FLIP, a + b in a TWIST, either way about. */
    private static void likeParts() {
        LoopGround x = Check.on(Check.TORUS_LINES + "line d of 2 1 1;word w is a 1;word v is a -1;word u is d 1;");
        // Along a, of (1 1 0): a + b = 2 and 2 f = 2 are like, so a + b is taken: EDGE 1 is twice EDGE 0, less EDGE 2.
        sameTable(x, 0, 2, new int[][] {{1, 0, 0}, {2, 0, -1}, {0, 1, 0}});
        // The other way about, of (1 0 1): a + b = 2 and 2 e = 2 are like: EDGE 2 is twice EDGE 0, less EDGE 1.
        sameTable(x, 1, 1, new int[][] {{1, 0, 0}, {0, 0, 1}, {2, -1, 0}});
        // Along d, of (2 1 1): EDGE 0 is flipped there and back with x = z = 1, y = w = 2, like both times; between these
        // f = 2 and e = 1, and 2 f is greater.
        sameTable(x, 2, 3, new int[][] {{1, -2, 2}, {0, 0, 1}, {0, -1, 2}});
    }

    private static void sameTable(LoopGround x, int word, int line, int[][] want) {
        for (int i = 0; i < 3; i++) {
            for (int j = 0; j < 3; j++) {
                Check.due("table(" + word + ", " + line + ", " + i + ", " + j + ")", x.table(word, line, i, j),
                    Math.floorMod(want[i][j], 1000003));
            }
        }
    }

    private static void polynomials() {
        LoopGround x = Check.on(TORUS + "word w is a 1 b -1;word i is a 1 a -1;word r is r 1;");
        int m = 1000003;
        int[][] want = {{m - 1, 2, m - 2, 1, -1}, {m - 1, 3, m - 3, 1, -1}};
        for (int w = 0; w < 2; w++) {
            for (int i = 0; i <= 4; i++) {
                Check.due("polynomial(" + w + ", 0, " + i + ")", x.polynomial(w, 0, i), want[w][i]);
            }
        }
        // (t - 1) (t t - 3 t + 1)
        int[] grows = {m - 1, 4, m - 4, 1};
        for (int i = 0; i <= 3; i++) {
            Check.due("polynomial(0, 2, " + i + ")", x.polynomial(0, 2, i), grows[i]);
        }
        Check.due("polynomial(0, 0, -1)", x.polynomial(0, 0, -1), LoopGround.NONE);
        Check.due("polynomial of nothing", x.polynomial(0, 4, 0), LoopGround.NONE);
        Check.due("polynomial of none", x.polynomial(0, 5, 0), LoopGround.NONE);
        Check.due("polynomial of the line", x.polynomial(0, -1, 0), LoopGround.NONE);
        Check.due("polynomial of a word that is not fair", x.polynomial(2, 0, 0), LoopGround.NONE);
    }

    private static void anotherGround() {
        LoopGround x = Check.on(Check.TORUS_LINES + "word w is a 1;");
        Check.due("table", x.table(0, 2, 1, 0), 2);
        Check.due("polynomial", x.polynomial(0, 2, 3), 1);
        Check.feed(x, Check.TORUS_LINES + "word w is b 1;");
        x.ground();
        Check.due("table of another ground", x.table(0, 2, 1, 0), 0);
        Check.due("table of another ground", x.table(0, 2, 1, 1), 1);
    }
}
