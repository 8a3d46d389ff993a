import java.util.List;
import java.util.Random;

/** What holds of loops on any ground, on grounds made up by a seed: crossings, twists, words, tables. */
public final class LawsTest {
    private static final int NONE = LoopGround.NONE;
    private static final long PRIME = 1000003;

    public static void main(String[] args) {
        Random random = new Random(7);
        for (int k = 0; k < 150; k++) {
            int pieces = 2 + 2 * random.nextInt(6);
            int[][] ground = Grounds.livelyPieces(random, pieces);
            List<int[]> lines = Grounds.lines(random, ground, 7);
            StringBuilder text = new StringBuilder(Grounds.piecesText(ground));
            for (int i = 0; i < 7; i++) {
                text.append(Grounds.lineText("" + (char) ('a' + i), lines.get(i)));
            }
            for (int a = 0; a < 6; a++) {
                pair(text.toString(), a, a + 1);
                crossings(Check.on(text.toString()), a, a + 1);
            }
        }
        Check.finish(LawsTest.class);
    }

    private static void crossings(LoopGround x, int a, int b) {
        if (x.flips(a) < 0 || x.flips(b) < 0) {
            return;
        }
        long cross = x.cross(a, b);
        Check.due("cross is the same both ways", x.cross(b, a), cross);
        Check.due("a line does not cross itself", x.cross(a, a), 0);
        int across = x.across(a, b);
        Check.due("across the other way", x.across(b, a), -across);
        Check.due("across is no more than cross", Math.abs(across) <= cross, true);
        Check.due("both are even or odd", (cross - across) % 2, 0);
        for (int times = -3; times <= 3; times++) {
            x.lay(a);
            if (times != 0 && x.twist(b, times) >= 0) {
                Check.due("a twisted along b crosses a", x.cross(NONE, a), Math.abs(times) * cross * cross);
                Check.due("a twisted along b crosses b", x.cross(NONE, b), cross);
                Check.due("a twisted is single", x.loops(NONE, 2) == 1 || x.loops(NONE, 2) == -2, true);
                x.twist(b, -times);
                same(x, NONE, a);
            }
        }
    }

    private static void same(LoopGround x, int one, int other) {
        for (int edge = 0; edge < x.about(1); edge++) {
            Check.due("the same line", x.number(one, edge), x.number(other, edge));
        }
    }

    private static void pair(String lines, int a, int b) {
        char p = (char) ('a' + a);
        char q = (char) ('a' + b);
        LoopGround x = Check.on(lines + "word u is " + p + " 1 " + q + " 1;word v is " + q + " 1 " + p + " 1;"
            + "word uu is " + p + " 1 " + q + " 1 " + p + " 1;word vv is " + q + " 1 " + p + " 1 " + q + " 1;"
            + "word i is " + p + " 3 " + q + " -2 " + q + " 2 " + p + " -3;word g is " + p + " 2 " + q + " -1;");
        if (x.kept(0) == NONE) {
            return;
        }
        long cross = x.cross(a, b);
        if (cross == 0) {
            Check.due("twists along lines that do not cross", x.alike(0, 1), 1);
        } else if (cross == 1) {
            Check.due("twists along lines that cross once", x.alike(2, 3), 1);
        }
        Check.due("forth and back", x.kept(4), (1 << x.about(4)) - 1);
        Check.due("forth and back", x.order(4), 1);
        tables(x, a);
        tables(x, b);
        for (int line = 0; line < x.about(4); line++) {
            x.lay(line);
            int loops = x.loops(line, 0);
            int rings = x.loops(line, 1);
            x.go(5);
            if (x.loops(NONE, 0) != -2) {
                Check.due("as many loops", x.loops(NONE, 0), loops);
                Check.due("as many rings", x.loops(NONE, 1), rings);
            }
        }
    }

    private static void tables(LoopGround x, int line) {
        x.lay(line);
        if (x.go(5) < 0) {
            return;
        }
        int edges = x.about(1);
        for (int i = 0; i < edges; i++) {
            long sum = 0;
            for (int j = 0; j < edges; j++) {
                sum += x.table(5, line, i, j) * x.number(line, j) % PRIME;
            }
            Check.due("the table leads to the image", sum % PRIME, x.number(NONE, i) % PRIME);
        }
        int last = x.polynomial(5, line, 0);
        Check.due("the greatest power", x.polynomial(5, line, edges), 1);
        Check.due("the table's determinant", last == 1 || last == PRIME - 1, true);
        long trace = 0;
        for (int i = 0; i < edges; i++) {
            trace += x.table(5, line, i, i);
        }
        Check.due("the table's trace", (x.polynomial(5, line, edges - 1) + trace) % PRIME, 0);
    }
}
