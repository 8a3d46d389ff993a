/** Promises 14 to 21 at their edges: WORDS and LINES that there are not, what is SPENT, how often, how many rows. */
public final class WordBoundsTest {
    private static final int NONE = LoopGround.NONE;
    private static final int MOST = Integer.MAX_VALUE;
    private static final int LEAST = Integer.MIN_VALUE;
    private static final int PRIME = 1000003;
    /** By up, x comes to a number that is just 10^14; by ud it goes there and comes back. */
    private static final String AT = Check.TORUS + "line x of 75 40 35;line c of 4 3 7;line d of 25 74 99;"
        + "line e of 33 49 82;line f of 5 36 41;word up is c -2 d -4 e 3 f -1;"
        + "word ud is c -2 d -4 e 3 f -1 f 1 e -3 d 4 c 2;word i is c 1 c -1;";
    /** The same, but the number is 10^14 and 1. */
    private static final String ABOVE = Check.TORUS + "line x of 22 87 65;line c of 10 1 9;line d of 31 8 23;"
        + "line e of 8 27 19;line f of 8 67 75;word up is c 3 d 3 e -6 f 1;"
        + "word ud is c 3 d 3 e -6 f 1 f -1 e 6 d -3 c -3;word i is c 1 c -1;";

    public static void main(String[] args) {
        wordsThatAreNot();
        unfairWords();
        keptBits();
        oneEdgeAlone();
        oneLineAlone();
        orders();
        stretches();
        tables();
        tablesInTurn();
        atTheLimit();
        aboveTheLimit();
        Check.finish(WordBoundsTest.class);
    }

    private static void refused(LoopGround x, int word) {
        Check.due("kept(" + word + ")", x.kept(word), NONE);
        Check.due("alike(" + word + ", 0)", x.alike(word, 0), NONE);
        Check.due("alike(0, " + word + ")", x.alike(0, word), NONE);
        Check.due("alike(" + word + ", " + word + ")", x.alike(word, word), NONE);
        Check.due("order(" + word + ")", x.order(word), NONE);
        Check.due("stretch(" + word + ", 0, 0)", x.stretch(word, 0, 0), NONE);
        Check.due("table(" + word + ", 0, 0, 0)", x.table(word, 0, 0, 0), NONE);
        Check.due("polynomial(" + word + ", 0, 0)", x.polynomial(word, 0, 0), NONE);
        Check.due("least(" + word + ", 1)", x.least(word, 1), NONE);
        Check.due("go(" + word + ")", x.go(word), NONE);
    }

    private static void wordsThatAreNot() {
        LoopGround full = Check.on(Check.FULL);
        for (int word : new int[] {6, 7, -1, -2, MOST, LEAST}) {
            refused(full, word);
        }
        Check.due("kept(5)", full.kept(5), 0b11011111);
        Check.due("alike(0, 5)", full.alike(0, 5), 0);
        Check.due("alike(5, 5)", full.alike(5, 5), 1);
        Check.due("order(5)", full.order(5), 0);
        Check.due("stretch(5, 0, 0)", full.stretch(5, 0, 0), 1000);
        Check.due("table(5, 7, 17, 17) is there", full.table(5, 7, 17, 17) >= 0, true);
        refused(new LoopGround(), 0);
        refused(Check.on(Check.TORUS_LINES), 0);
        LoopGround one = Check.on(Check.TORUS_LINES + "word w is a 1;");
        Check.due("kept(0)", one.kept(0), 0b001);
        refused(one, 1);
    }

    private static void unfairWords() {
        String lines = Check.TORUS_LINES + "line two of 0 2 2;line no of 0 0 0;line ring of 2 2 2;line more of 2 3 3;";
        for (String unfair : new String[] {"two", "no", "ring", "more"}) {
            LoopGround x = Check.on(lines + "word w is a 1;word first is " + unfair + " 1 a 1;word last is"
                + " a 1".repeat(7) + " " + unfair + " 1;");
            refused(x, 1);
            refused(x, 2);
            Check.due("the word that is fair", x.kept(0) >= 0, true);
        }
        LoopGround stuck = Check.on(Check.ladder(4) + "line a of 1 1 0 0 0 0;line h of 1 0 1 1 1 0;word w is a 1;word s is h 1;"
            + "word t is a 1 h 1;word u is a 1 a -1;");
        Check.due("flips of a stuck one", stuck.flips(1), -2);
        refused(stuck, 1);
        refused(stuck, 2);
        Check.due("a word beside it", stuck.kept(0), 0b01);
        Check.due("a stuck line is kept", stuck.kept(3), 0b11);
        Check.due("a stuck line is stretched", stuck.stretch(0, 1, 0) > 0, true);
    }

    private static void keptBits() {
        LoopGround x = Check.on(Check.FULL);
        // a and b, c and h that cross them; f and g, e that crosses f; all but the LINES next to each
        int[] want = {0b01111000, 0b10001111, 0b10001111, 0, 0b11111111, 0b11011111};
        for (int word = 0; word < 6; word++) {
            Check.due("kept(" + word + ")", x.kept(word), want[word]);
        }
    }

    /** By a TWIST done twice one EDGE's number alone may be another: it is seen, be it the first or the last. */
    private static void oneEdgeAlone() {
        String[][] cases = {{"0 1 1", "1 0 1"}, {"0 1 1", "1 1 0"}, {"1 0 1", "0 1 1"}, {"1 0 1", "1 1 0"}, {"1 1 0", "0 1 1"},
            {"1 1 0", "1 0 1"}};
        boolean[] seen = new boolean[3];
        for (String[] c : cases) {
            for (int times = -2; times <= 2; times += 4) {
                LoopGround x = Check.on(Check.TORUS + "line x of " + c[0] + ";line y of " + c[1] + ";word w is y " + times
                    + ";word i is y 1 y -1;");
                x.lay(0);
                x.go(0);
                int others = 0;
                int last = NONE;
                for (int edge = 0; edge < 3; edge++) {
                    if (x.number(NONE, edge) != x.number(0, edge)) {
                        others++;
                        last = edge;
                    }
                }
                if (others == 1) {
                    seen[last] = true;
                }
                Check.due("kept: x is another, y is not", x.kept(0), 0b10);
                Check.due("order", x.order(0), 0);
                Check.due("alike", x.alike(0, 1), 0);
                Check.due("alike", x.alike(1, 0), 0);
            }
        }
        for (int edge = 0; edge < 3; edge++) {
            Check.due("only EDGE " + edge + " was another", seen[edge], true);
        }
    }

    /** One LINE that is another is enough, be it told first or last. */
    private static void oneLineAlone() {
        String words = "word t is a 1;word i is a 1 a -1;word tt is a 2 a -1;";
        String kept = "line a of 0 1 1;line no of 0 0 0;line ring of 2 2 2;line twice of 0 2 2;line p of 0 3 3;line q of 0 4 4;"
            + "line r of 2 3 3;";
        LoopGround first = Check.on(Check.TORUS + "line b of 1 0 1;" + kept + words);
        Check.due("kept but the first", first.kept(0), 0b11111110);
        LoopGround last = Check.on(Check.TORUS + kept + "line b of 1 0 1;" + words);
        Check.due("kept but the last", last.kept(0), 0b01111111);
        for (LoopGround x : new LoopGround[] {first, last}) {
            Check.due("all kept", x.kept(1), 0b11111111);
            Check.due("alike(0, 1)", x.alike(0, 1), 0);
            Check.due("alike(1, 0)", x.alike(1, 0), 0);
            Check.due("alike(0, 2)", x.alike(0, 2), 1);
            Check.due("alike(0, 0)", x.alike(0, 0), 1);
            Check.due("order(0)", x.order(0), 0);
            Check.due("order(1)", x.order(1), 1);
        }
        // where no told LINE is another, a TWIST is as good as none
        LoopGround none = Check.on(Check.TORUS + kept + words);
        Check.due("kept", none.kept(0), 0b01111111);
        Check.due("alike", none.alike(0, 1), 1);
        Check.due("order", none.order(0), 1);
    }

    private static void orders() {
        // Orders 10 and 3 at once, on ten PIECES: 30 is the greatest that was found on any ground; above it none is left
        // that is no more than 40.
        String pieces = "piece 8 10 7;piece 9 12 4;piece 5 0 6;piece 11 3 2;piece 1 4 14;piece 8 14 7;piece 12 1 13;"
            + "piece 3 10 13;piece 2 6 5;piece 0 9 11;";
        String lines = "line a of 0 1 0 0 0 0 0 0 1 0 1 0 0 1 1;line b of 0 0 0 0 1 0 0 1 0 0 1 0 1 1 1;"
            + "line c of 0 0 0 1 1 0 0 1 0 1 1 1 0 0 1;line d of 1 0 1 0 0 0 1 0 0 0 0 1 0 0 0;"
            + "line e of 1 0 1 0 0 1 0 0 0 0 0 1 0 0 0;line f of 0 0 0 0 0 1 1 0 0 0 0 0 0 0 0;"
            + "line g of 0 0 0 0 1 0 0 0 1 0 1 0 1 1 1;line h of 0 1 0 0 1 0 0 0 0 0 0 0 1 0 0;";
        LoopGround x = Check.on(pieces + lines + "word w is e 1 c 1 g 1 f 1 b 1 h 1;word v is g 1 c 1 e 1 g 1 a 1 b 1 f 1;"
            + "word u is e 1 f 1;word t is e 1;word s is e 1 e -1;");
        Check.due("order(0)", x.order(0), 30);
        Check.due("order(1)", x.order(1), 24);
        Check.due("order(2)", x.order(2), 3);
        Check.due("order(3)", x.order(3), 0);
        Check.due("order(4)", x.order(4), 1);
        for (int line = 0; line < 8; line++) {
            x.lay(line);
            for (int times = 0; times < 30; times++) {
                x.go(0);
            }
            for (int edge = 0; edge < 15; edge++) {
                Check.due("30 times through it", x.number(NONE, edge), x.number(line, edge));
            }
        }
    }

    private static void stretches() {
        LoopGround x = Check.on(Check.TORUS_LINES + "line no of 0 0 0;line ring of 2 2 2;word w is a 1 b -1;"
            + "word g is a 9 b -9;");
        Check.due("stretch(0, 0, 0)", x.stretch(0, 0, 0), 1000);
        Check.due("stretch(0, 0, 2)", x.stretch(0, 0, 2), 2666);
        Check.due("stretch(0, 0, 20)", x.stretch(0, 0, 20), 2618);
        for (int n : new int[] {21, -1, MOST, LEAST}) {
            Check.due("stretch(0, 0, " + n + ")", x.stretch(0, 0, n), NONE);
            Check.due("stretch(1, 0, " + n + "), spent otherwise", x.stretch(1, 0, n), NONE);
        }
        Check.due("stretch(1, 0, 20)", x.stretch(1, 0, 20), -2);
        for (int line : new int[] {3, 5, -1, MOST, LEAST}) {
            Check.due("stretch(0, " + line + ", 0)", x.stretch(0, line, 0), NONE);
        }
        Check.due("stretch of a ring", x.stretch(0, 4, 20), 1000);
        // the first n by which it is SPENT: numbers grow some 83 times
        int last = 0;
        for (int n = 0; n <= 20; n++) {
            last = x.stretch(1, 0, n) >= 0 ? n : last;
        }
        x.lay(0);
        for (int n = 0; n <= last; n++) {
            Check.due("go", x.go(1) > 0, true);
        }
        Check.due("go once more", x.go(1), -2);
        Check.due("stretch behind the last", x.stretch(1, 0, last + 1), -2);
        // a LINE whose numbers are just 1 together
        LoopGround one = Check.on(Check.FOUR_POINTS + "line c of 1 2 2 0 2 1;line r of 1 0 0 0 0 0;word w is c 1;");
        Check.due("stretch", one.stretch(0, 1, 0), 1000);
        Check.due("table", one.table(0, 1, 0, 0), 1);
        Check.due("polynomial", one.polynomial(0, 1, 6), 1);
    }

    private static void tables() {
        LoopGround x = Check.on(Check.FULL);
        Check.due("table(4, 7, 17, 17)", x.table(4, 7, 17, 17), 1);
        Check.due("table(4, 7, 17, 16)", x.table(4, 7, 17, 16), 0);
        int[][] wrong = {{8, 0, 0}, {-1, 0, 0}, {0, 18, 0}, {0, 0, 18}, {0, -1, 0}, {0, 0, -1}, {0, MOST, 0}, {0, 0, LEAST}};
        for (int[] w : wrong) {
            Check.due("table(4, " + w[0] + ", " + w[1] + ", " + w[2] + ")", x.table(4, w[0], w[1], w[2]), NONE);
        }
        // nothing is done at last: (t - 1) to the power of 18
        long power = 1;
        for (int i = 18; i >= 0; i--) {
            Check.due("polynomial(4, 7, " + i + ")", x.polynomial(4, 7, i), Math.floorMod(i % 2 == 0 ? power : -power, PRIME));
            power = power * i / (19 - i);
        }
        for (int i : new int[] {19, -1, MOST, LEAST}) {
            Check.due("polynomial(4, 7, " + i + ")", x.polynomial(4, 7, i), NONE);
        }
        Check.due("polynomial(4, 8, 0)", x.polynomial(4, 8, 0), NONE);
        Check.due("polynomial(4, -1, 0)", x.polynomial(4, -1, 0), NONE);
        // numbers below 0 come as 1000002 and less, and none is above that
        LoopGround y = Check.on(Check.TORUS_LINES + "word w is a 1;word g is a 9 b -9 a 9 b -9;");
        Check.due("table(0, 2, 1, 2)", y.table(0, 2, 1, 2), PRIME - 1);
        for (int i = 0; i < 9; i++) {
            int n = y.table(1, 0, i / 3, i % 3);
            Check.due("in 0 .. 1000002: " + n, n >= 0 && n < PRIME, true);
        }
        for (int i = 0; i <= 3; i++) {
            int n = y.polynomial(1, 0, i);
            Check.due("in 0 .. 1000002: " + n, n >= 0 && n < PRIME, true);
        }
        LoopGround no = Check.on(Check.TORUS_LINES + "line no of 0 0 0;word w is a 1;");
        Check.due("table of nothing", no.table(0, 3, 0, 0), NONE);
        Check.due("polynomial of nothing", no.polynomial(0, 3, 0), NONE);
    }

    /** Each TABLE is its own, whichever was asked for ahead of it. */
    private static void tablesInTurn() {
        String text = Check.TORUS_LINES + "word w is a 1;word v is b 1;word u is a 1 b -1;";
        LoopGround x = Check.on(text);
        for (int round = 0; round < 2; round++) {
            for (int call = 0; call < 9; call++) {
                LoopGround fresh = Check.on(text);
                int word = round == 0 ? call % 3 : call / 3;
                int line = round == 0 ? call / 3 : call % 3;
                for (int i = 0; i < 9; i++) {
                    Check.due("table(" + word + ", " + line + ")", x.table(word, line, i / 3, i % 3),
                        fresh.table(word, line, i / 3, i % 3));
                }
                for (int i = 0; i < 4; i++) {
                    Check.due("polynomial(" + word + ", " + line + ")", x.polynomial(word, line, i),
                        Check.on(text).polynomial(word, line, i));
                }
            }
        }
    }

    private static void atTheLimit() {
        LoopGround x = Check.on(AT);
        Check.due("kept", x.kept(1), 0b11111);
        Check.due("order", x.order(1), 1);
        Check.due("alike(1, 2)", x.alike(1, 2), 1);
        Check.due("alike(2, 1)", x.alike(2, 1), 1);
        Check.due("stretch there", x.stretch(0, 0, 0), 2 * Slopes.LIMIT * 1000 / 150);
        Check.due("stretch there and back", x.stretch(1, 0, 0), 1000);
        Check.due("stretch there and back, 21 times", x.stretch(1, 0, 20), 1000);
        for (int i = 0; i < 9; i++) {
            Check.due("table", x.table(1, 0, i / 3, i % 3), i / 3 == i % 3 ? 1 : 0);
        }
        int[] power = {PRIME - 1, 3, PRIME - 3, 1};
        for (int i = 0; i < 4; i++) {
            Check.due("polynomial(1, 0, " + i + ")", x.polynomial(1, 0, i), power[i]);
        }
        x.lay(0);
        Check.due("go there and back", x.go(1), 150);
        Check.due("go there", x.go(0), 2 * Slopes.LIMIT);
        Check.due("number(-1, 2)", x.number(NONE, 2), Slopes.LIMIT);
        Check.due("acts", x.about(6), 3);
        Check.due("image", x.image(0), 2 * Slopes.LIMIT);
        Check.due("loops", x.loops(NONE, 0), -2);
        Check.due("traced", x.traced(NONE, 0), -2);
    }

    private static void aboveTheLimit() {
        LoopGround x = Check.on(ABOVE);
        Check.due("kept", x.kept(1), 0b11110);
        Check.due("order", x.order(1), 0);
        Check.due("alike(1, 2)", x.alike(1, 2), 0);
        Check.due("alike(2, 1)", x.alike(2, 1), 0);
        Check.due("alike(1, 1)", x.alike(1, 1), 1);
        Check.due("stretch there", x.stretch(0, 0, 0), -2);
        Check.due("stretch there and back", x.stretch(1, 0, 0), -2);
        Check.due("stretch of another line", x.stretch(1, 1, 0), 1000);
        for (int i = 0; i < 9; i++) {
            Check.due("table", x.table(1, 0, i / 3, i % 3), -2);
        }
        for (int i = 0; i < 4; i++) {
            Check.due("polynomial(1, 0, " + i + ")", x.polynomial(1, 0, i), -2);
        }
        Check.due("polynomial(1, 0, 4)", x.polynomial(1, 0, 4), NONE);
        Check.due("table of another line", x.table(1, 1, 2, 2), 1);
        x.lay(0);
        Check.due("go there", x.go(0), -2);
        Check.due("go there and back", x.go(1), -2);
        Check.numbers(x, NONE, 22, 87, 65);
        Check.due("acts", x.about(6), 1);
        Check.due("go of nothing done", x.go(2), 174);
    }
}
