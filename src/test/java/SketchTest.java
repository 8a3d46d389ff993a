/** Promise 27: sketches. */
public final class SketchTest {
    private static final int NONE = LoopGround.NONE;

    public static void main(String[] args) {
        onTheTorus();
        leftOut();
        noSketches();
        notTrue();
        bothSidesInOnePiece();
        manyPieces();
        longOnes();
        everyFirstByte();
        everyEdgeOfEveryPiece();
        everywhereAndEitherWay();
        asLongAsCanBe();
        Check.finish(SketchTest.class);
    }

    private static void isTrue(LoopGround x, String text, int... want) {
        int sum = 0;
        for (int n : want) {
            sum += n;
        }
        Check.due("sketch " + text, Check.sketch(x, text), sum);
        Check.due("the tape is empty then", x.about(8), 0);
        for (int edge = 0; edge < want.length; edge++) {
            Check.due("lies(" + edge + ") of " + text, x.lies(edge), want[edge]);
        }
        Check.due("lies behind the last", x.lies(want.length), NONE);
    }

    private static void isNot(LoopGround x, String text, int answer) {
        Check.due("sketch " + text, Check.sketch(x, text), answer);
        Check.due("the tape is empty then", x.about(8), 0);
        Check.due("no row lies there", x.lies(0), NONE);
    }

    private static void onTheTorus() {
        LoopGround x = Check.on(Check.TORUS);
        isTrue(x, "0bc", 0, 1, 1);
        isTrue(x, "0cb", 0, 1, 1);
        isTrue(x, "1bc", 0, 1, 1);
        isTrue(x, "0ab", 1, 1, 0);
        // 1 2 1 crosses a b c b: from anywhere, either way
        isTrue(x, "0abcb", 1, 2, 1);
        isTrue(x, "0bcba", 1, 2, 1);
        isTrue(x, "1cbab", 1, 2, 1);
        isTrue(x, "0babc", 1, 2, 1);
        // 5 3 2
        LoopGround y = Check.on(Check.TORUS + "line a of 5 3 2;");
        StringBuilder text = new StringBuilder();
        for (int i = 0; i < 10; i++) {
            text.append((char) ('a' + y.traced(0, i)));
        }
        for (int turn = 0; turn < 10; turn++) {
            text.append(text.charAt(0)).deleteCharAt(0);
            isTrue(y, "0" + text, 5, 3, 2);
            isTrue(y, "1" + new StringBuilder(text).reverse(), 5, 3, 2);
        }
    }

    private static void leftOut() {
        LoopGround x = Check.on(Check.TORUS);
        isTrue(x, "0aabc", 0, 1, 1);
        isTrue(x, "0bccbbc", 0, 1, 1);
        isTrue(x, "0abbabc", 0, 1, 1);
        // round the end: what is crossed last is crossed back first
        isTrue(x, "0abca", 0, 1, 1);
        isTrue(x, "0acbaca", 1, 1, 0);
    }

    private static void noSketches() {
        LoopGround x = Check.on(Check.TORUS);
        isNot(x, "", NONE);
        isNot(x, "0b", NONE);
        isNot(x, "0bcb", NONE);
        isNot(x, "2bc", NONE);
        isNot(x, "/bc", NONE);
        isNot(x, "bc", NONE);
        isNot(x, "0bd", NONE);
        isNot(x, "0b`", NONE);
        isNot(x, "0b c", NONE);
        isNot(x, "0BC", NONE);
        isNot(x, "0b\u00e3", NONE);
        isNot(x, "\u00b0bc", NONE);
        isTrue(x, "0bc", 0, 1, 1);
        isNot(x, "0bc\0", NONE);
        LoopGround four = Check.on(Check.FOUR_POINTS);
        isNot(four, "0c", NONE);
        isNot(four, "0bb" + "d", NONE);
        LoopGround empty = new LoopGround();
        isNot(empty, "0", NONE);
        isNot(empty, "", NONE);
    }

    private static void notTrue() {
        LoopGround x = Check.on(Check.TORUS);
        isNot(x, "0", -2);
        isNot(x, "0bb", -2);
        isNot(x, "0bccb", -2);
        // twice round, and a RING
        isNot(x, "0bcbc", -2);
        isNot(x, "0abcabc", -2);
        // the numbers of that RING, in another order
        isNot(x, "0abcacb", -2);
        // of 2 3 5, once in its order and once not
        isTrue(x, "0acbcbcacbc", 2, 3, 5);
        isNot(x, "0acbcbcbcac", -2);
    }

    private static void bothSidesInOnePiece() {
        // a and f have both SIDES in one PIECE: round the point in it, from the first SIDE
        LoopGround x = Check.on(Check.FOUR_POINTS);
        isTrue(x, "0abcefecb", 1, 2, 2, 0, 2, 1);
        isTrue(x, "1cefecbab", 1, 2, 2, 0, 2, 1);
        isTrue(x, "1babcefec", 1, 2, 2, 0, 2, 1);
        isTrue(x, "0abdefedb", 1, 2, 0, 2, 2, 1);
        isNot(x, "0a", -2);
        isNot(x, "0aa", -2);
        // crossed twice the same way is not crossed back
        isNot(x, "0aabcefecb", -2);
        isNot(x, "0aaabcefecb", -2);
        isTrue(x, "0abbbcefecb", 1, 2, 2, 0, 2, 1);
    }

    private static void manyPieces() {
        // PIECES 10 and 11 are told by : and ;
        LoopGround x = Check.on("piece 0 1 2;piece 0 1 3;piece 2 4 5;piece 3 4 6;piece 5 7 8;piece 6 7 9;"
            + "piece 8 10 11;piece 9 10 12;piece 11 13 14;piece 12 13 15;piece 14 16 17;piece 15 16 17;");
        int[] row = {0, 0, 0, 0, 0, 0, 0, 0, 0, 0, 0, 0, 0, 0, 0, 0, 1, 1};
        isTrue(x, ":qr", row);
        isTrue(x, ";qr", row);
        isNot(x, "<qr", NONE);
        isNot(x, "9qr", NONE);
    }

    private static void longOnes() {
        // 1600 bytes: there and back 798 times, then a loop
        LoopGround x = Check.on(Check.TORUS);
        StringBuilder text = new StringBuilder("0");
        while (text.length() < 1597) {
            text.append(text.length() % 3 == 0 ? "aa" : "cc");
        }
        isTrue(x, text + "bc", 0, 1, 1);
        Check.due("about(8)", x.about(8), 0);
        StringBuilder there = new StringBuilder("0");
        StringBuilder back = new StringBuilder();
        for (int i = 0; i < 798; i++) {
            char c = "abcacb".charAt(i % 6);
            there.append(c);
            back.insert(0, c);
        }
        isTrue(x, there + "bc" + back, 0, 1, 1);
        isNot(x, there.toString() + back, -2);
        LoopGround two = Check.on(Check.TWO_HANDLES);
        isTrue(two, "0" + "aa".repeat(798) + "bfe", 0, 1, 0, 0, 1, 1, 0, 0, 0);
    }

    private static void everyFirstByte() {
        int[] pieces = {0, 2, 4, 6, 12};
        String[] texts = {"", Check.TORUS, Check.FOUR_POINTS, Check.TWO_HANDLES, Check.FULL};
        for (int i = 0; i < texts.length; i++) {
            LoopGround x = Check.on(texts[i]);
            for (int b = 0; b < 256; b++) {
                isNot(x, "" + (char) b, b >= 48 && b < 48 + pieces[i] ? -2 : NONE);
            }
        }
        LoopGround x = Check.on(Check.TORUS);
        for (int b = 0; b < 256; b++) {
            isNot(x, "0" + (char) b + (char) b, b >= 97 && b <= 99 ? -2 : NONE);
            isNot(x, "0" + (char) b, NONE);
        }
        LoopGround full = Check.on(Check.FULL);
        isNot(full, ";rr", -2);
        isNot(full, ";ss", NONE);
        isNot(full, "<rr", NONE);
        isNot(full, ";``", NONE);
    }

    /** There and back over each EDGE, from each PIECE: no SKETCH, if it is none of that PIECE. */
    private static void everyEdgeOfEveryPiece() {
        for (String text : new String[] {Check.TORUS, Check.FOUR_POINTS, Check.TWO_HANDLES, Check.ladder(12)}) {
            LoopGround x = Check.on(text);
            String[] pieces = text.split(";");
            for (int piece = 0; piece <= pieces.length; piece++) {
                for (int edge = 0; edge <= x.about(1); edge++) {
                    boolean there = piece < pieces.length && (pieces[piece] + " ").contains(" " + edge + " ");
                    isNot(x, "" + (char) (48 + piece) + (char) (97 + edge) + (char) (97 + edge), there ? -2 : NONE);
                }
            }
        }
    }

    /** A LOOP that is not the same backward: begun in each of its PIECES, gone through either way. */
    private static void everywhereAndEitherWay() {
        LoopGround x = Check.on(Check.TWO_HANDLES);
        int[] row = {0, 1, 0, 0, 1, 1, 0, 0, 0};
        for (String text : new String[] {"0bfe", "2feb", "1ebf", "0efb", "1fbe", "2bef"}) {
            isTrue(x, text, row);
        }
        for (String text : new String[] {"1bfe", "0feb", "2ebf", "1efb", "2fbe", "0bef", "0bf", "0bfeb"}) {
            isNot(x, text, NONE);
        }
        // the same with what is left out ahead of it, behind it, in it, and round the end
        isTrue(x, "0aabfe", row);
        isTrue(x, "0bfeaa", row);
        isTrue(x, "0bggfe", row);
        isTrue(x, "0bfaae", row);
        isTrue(x, "2bbfeb", row);
        isTrue(x, "0aebfa", row);
        isTrue(x, "1ebfee", row);
        isTrue(x, "3gfebg", row);
        isTrue(x, "4hgfebgh", row);
        isTrue(x, "5ihgfebghi", row);
        longerOnes();
    }

    private static void longerOnes() {
        String lines = "line a of 1 0 0 0 1 0 0 0 0;line b of 0 1 0 0 1 1 0 0 0;line c of 0 0 1 0 0 0 0 1 1;"
            + "line d of 0 0 0 1 0 0 0 0 1;line q of 0 1 0 1 1 1 2 2 1;";
        LoopGround x = Check.on(Check.TWO_HANDLES + lines);
        int found = 0;
        for (int line = 0; line < 5; line++) {
            x.lay(line);
            x.twist(0, 1);
            x.twist(1, -2);
            x.twist(3, 1);
            x.twist(2, 2);
            StringBuilder text = new StringBuilder();
            for (int i = 0; x.traced(NONE, i) >= 0; i++) {
                text.append((char) ('a' + x.traced(NONE, i)));
            }
            String round = text.toString();
            if (x.loops(NONE, 2) != 1 || (round + round).contains(new StringBuilder(text).reverse())) {
                continue;
            }
            found++;
            for (int turn = 0; turn < round.length(); turn++) {
                String turned = round.substring(turn) + round.substring(0, turn);
                oneOfThePieces(x, turned);
                oneOfThePieces(x, new StringBuilder(turned).reverse().toString());
            }
        }
        Check.due("some that are not the same backward", found > 0, true);
    }

    /** From one PIECE it is TRUE; from another it is no SKETCH at all, or the same SKETCH over the other SIDES. */
    private static void oneOfThePieces(LoopGround x, String edges) {
        int right = 0;
        for (int piece = 0; piece < x.about(0); piece++) {
            int answer = Check.sketch(x, "" + (char) (48 + piece) + edges);
            if (answer != NONE) {
                right++;
                Check.due("sketch " + piece + edges, answer, edges.length());
                for (int edge = 0; edge < x.about(1); edge++) {
                    Check.due("lies(" + edge + ")", x.lies(edge), x.number(NONE, edge));
                }
            }
        }
        Check.due("right pieces for " + edges, right > 0, true);
    }

    /** The TAPE holds 1,600 bytes, so a SKETCH may cross 1,599 EDGES. */
    private static void asLongAsCanBe() {
        LoopGround x = Check.on(Check.TWO_HANDLES + "line a of 1 0 0 0 1 0 0 0 0;line b of 0 1 0 0 1 1 0 0 0;"
            + "line c of 0 0 1 0 0 0 0 1 1;line d of 0 0 0 1 0 0 0 0 1;line q of 0 1 0 1 1 1 2 2 1;");
        java.util.Random random = new java.util.Random(3);
        long all = 0;
        for (int tries = 0; tries < 200000 && all != 1599; tries++) {
            x.lay(random.nextInt(5));
            all = 0;
            for (int k = 0; k < 8 && all < 1599; k++) {
                all = x.twist(random.nextInt(5), random.nextInt(13) - 6);
            }
        }
        Check.due("1599 edges are crossed", all, 1599);
        StringBuilder text = new StringBuilder();
        for (int i = 0; i < 1599; i++) {
            text.append((char) ('a' + x.traced(NONE, i)));
        }
        oneOfThePieces(x, text.toString());
        oneOfThePieces(x, text.reverse().toString());
        // two that are crossed in another order
        int at = 0;
        while (text.charAt(at) == text.charAt(at + 2)) {
            at++;
        }
        text.setCharAt(at, text.charAt(at + 2));
        for (int piece = 0; piece < 6; piece++) {
            Check.due("not true, or no sketch", Check.sketch(x, "" + (char) (48 + piece) + text) < 0, true);
        }
    }
}
