/** How much can be told: PIECES, EDGES, LINES and their numbers, WORDS and their TWISTS; what is WHOLE, what FITS. */
public final class TellingBoundsTest {
    private static final String T = Check.TORUS;
    private static final String L = T + "line a of 0 1 1;";

    public static void main(String[] args) {
        pieces();
        piecesFirst();
        edges();
        whole();
        hanging();
        lines();
        numbersOfALine();
        fitting();
        words();
        twists();
        namesToldAlready();
        atOnePlaceTheLeast();
        numberedAsTold();
        Check.finish(TellingBoundsTest.class);
    }

    /** PIECES one behind the other: with an even number of them all EDGES are told twice. */
    private static String row(int count) {
        StringBuilder text = new StringBuilder();
        int last = 0;
        for (int i = 0; i < count; i++) {
            boolean lone = i % 2 == 0;
            int next = lone ? last : last + 1;
            if (i == 0) {
                text.append("piece 0 0 1;");
                last = 1;
            } else if (i == count - 1 && !lone) {
                text.append("piece ").append(last).append(' ').append(next).append(' ').append(next).append(';');
            } else if (!lone) {
                text.append("piece ").append(last).append(' ').append(next).append(' ').append(next + 1).append(';');
            } else {
                text.append("piece ").append(last + 1).append(' ').append(last + 2).append(' ').append(last + 3).append(';');
                last += 3;
            }
        }
        return text.toString();
    }

    private static void pieces() {
        for (int count = 0; count <= 12; count++) {
            if (count % 2 == 0) {
                LoopGround x = Check.on(row(count));
                Check.due("pieces of " + row(count), x.about(0), count);
                Check.due("edges of " + row(count), x.about(1), count / 2 * 3);
                Check.right(0, Check.ladder(count));
            } else {
                Check.fault(6, row(count) + "^");
                Check.fault(6, row(count) + " ^line a of 0;");
                Check.fault(6, row(count) + "\n^word w");
            }
        }
        Check.fault(2, row(12) + "^piece 0 0 0;");
        Check.fault(2, row(12) + "^piece");
        Check.fault(2, Check.ladder(12) + "^piece 18 $");
        // of 12 that are not WHOLE the 13th is too many all the same
        Check.fault(2, "piece 0 1 2;".repeat(2) + "piece 3 4 5;".repeat(2) + "piece 6 7 8;".repeat(2)
            + "piece 9 10 11;".repeat(2) + "piece 12 13 14;".repeat(2) + "piece 15 16 17;".repeat(2) + "^piece 0 1 2;");
        Check.fault(6, "piece 0 1 2;".repeat(2) + "piece 3 4 5;".repeat(2) + "piece 6 7 8;".repeat(2)
            + "piece 9 10 11;".repeat(2) + "piece 12 13 14;".repeat(2) + "piece 15 16 17;".repeat(2) + "^");
    }

    private static void piecesFirst() {
        Check.fault(2, L + "^piece 3 4 5;");
        Check.fault(2, L + "word w is a 1;^piece 3 4 5;");
        Check.fault(2, L + "line b of 0 1 1;^piece");
        Check.fault(2, T + "piece^");
        Check.fault(2, "piece 0 1 2; piece 0 1 2; line a of 0 1 1;\n ^piece 0 0 0;");
    }

    private static void edges() {
        Check.fault(6, "piece 17 17 16;^");
        Check.fault(4, "piece ^18 17 16;");
        Check.fault(4, "piece 17 ^18 16;");
        Check.fault(4, "piece 17 16 ^18;");
        Check.fault(4, "piece 0 ^99 1;");
        Check.fault(6, "piece 0 0 1;^");
        Check.fault(3, "piece 17 17 ^17;");
        Check.fault(3, "piece 17 17 16;piece 16 15 ^16;");
        Check.fault(2, "piece 0 1 2 ^0;");
        Check.fault(2, "piece 0 0 1 ^0;");
        Check.fault(2, "piece 0 0 1 ^18;");
        Check.fault(2, "piece 0 0^;");
        Check.fault(2, "piece ^;");
        LoopGround x = Check.on(row(12));
        Check.due("edges", x.about(1), 18);
        Check.due("number(-1, 17)", x.number(-1, 17), 0);
        Check.due("number(-1, 18)", x.number(-1, 18), -2);
    }

    private static void whole() {
        Check.right(0, "piece 0 0 1;piece 1 2 2;");
        Check.right(0, "piece 0 1 1;piece 0 2 2;");
        Check.right(0, "piece 0 1 0;piece 2 1 2;");
        Check.right(0, "piece 0 1 2;piece 0 1 2;");
        Check.right(0, "piece 2 1 0;piece 0 1 2;");
        // one is told once, another not at all
        Check.fault(6, "piece 0 0 1;piece 1 2 3;^");
        Check.fault(6, "piece 0 0 1;piece 1 3 3;^");
        Check.fault(6, "piece 1 1 2;piece 2 3 3;^");
        Check.fault(6, "piece 0 0 2;piece 2 3 3;^");
        Check.fault(6, "piece 0 0 1;piece 2 3 4;^");
        Check.fault(6, "piece 0 1 2;piece 3 4 5;^");
        // all twice, one too high
        Check.fault(6, "piece 0 0 1;piece 1 17 17;^");
        Check.fault(6, "piece 0 1 2;piece 0 1 2;piece 3 4 5;^line");
        Check.fault(6, "piece 0 1 2;^word w is a 1;");
        Check.fault(5, "word w is ^a 1;");
    }

    private static void hanging() {
        Check.fault(6, "piece 0 0 1;piece 2 2 1;piece 3 3 4;piece 5 5 4;^");
        Check.fault(6, "piece 0 1 2;piece 3 4 5;piece 0 1 2;piece 3 4 5;^");
        Check.fault(6, row(10).replace("piece 13 14 14;", "piece 14 14 13;") + "piece 15 16 17;piece 15 16 17;^");
        Check.fault(6, "piece 15 16 17;piece 15 16 17;" + row(10) + "^");
        // the last PIECE is next to the first, the one ahead of it next to that, and so on
        String backward = "piece 0 0 1;piece 16 17 17;piece 14 15 16;piece 13 14 15;piece 11 12 13;piece 10 11 12;"
            + "piece 8 9 10;piece 7 8 9;piece 5 6 7;piece 4 5 6;piece 2 3 4;piece 1 2 3;";
        Check.right(0, backward);
        Check.fault(6, backward.replace("piece 13 14 15;", "piece 16 14 15;").replace("piece 16 17 17;", "piece 13 17 17;") + "^");
        Check.fault(6, "piece 0 0 1;piece 3 3 4;piece 5 5 4;piece 2 2 1;^");
    }

    private static String lines(int from, int to) {
        StringBuilder text = new StringBuilder();
        for (int i = from; i < to; i++) {
            text.append("line ").append((char) ('a' + i)).append(" of 0 1 1;");
        }
        return text.toString();
    }

    private static void lines() {
        for (int count = 0; count <= 8; count++) {
            Check.right(count, T + lines(0, count));
        }
        Check.fault(2, T + lines(0, 8) + "^line i of 0 1 1;");
        Check.fault(2, T + lines(0, 8) + "^line a of 0 1 1;");
        Check.fault(2, T + lines(0, 8) + "^line");
        Check.fault(2, T + lines(0, 4) + "word w is a 1;" + lines(4, 8) + "word v is h 1; ^line i");
        Check.right(8, T + lines(0, 8) + "word w is h 1;");
    }

    private static void numbersOfALine() {
        Check.right(1, T + "line a of 99 99 98;");
        Check.right(1, T + "line a of 0 99 99;");
        Check.fault(4, T + "line a of ^100 99 1;");
        Check.fault(4, T + "line a of 99 ^100 1;");
        Check.fault(4, T + "line a of 99 99 ^100;");
        Check.fault(2, T + "line a of^;");
        Check.fault(2, T + "line a of 0^;");
        Check.fault(2, T + "line a of 0 1^;");
        Check.fault(2, T + "line a of 0 1 1 ^1;");
        Check.fault(2, T + "line a of 0 1 1 ^1");
        Check.fault(2, T + "line a of 0 1 1^");
        Check.fault(2, T + "line a of 0 1 ^-1;");
        String ladder = Check.ladder(12);
        Check.right(1, ladder + "line a of" + " 0".repeat(18) + ";");
        Check.right(1, ladder + "line a of 99 99" + " 0".repeat(16) + ";");
        Check.fault(2, ladder + "line a of" + " 0".repeat(17) + "^;");
        Check.fault(2, ladder + "line a of" + " 0".repeat(18) + " ^0;");
        Check.fault(4, ladder + "line a of" + " 0".repeat(17) + " ^100;");
        // without EDGES no LINE can be told, but none is missed either
        Check.fault(2, "line a of^;");
        Check.fault(2, "line a of ^0;");
        Check.fault(2, "line a of ^100;");
        Check.fault(2, "line a of^");
        Check.right(0, "");
    }

    private static void fitting() {
        String[] right = {"0 0 0", "1 1 0", "1 1 2", "2 1 1", "1 2 1", "2 2 2", "2 2 4", "1 2 3", "99 99 98", "98 98 98"};
        for (String numbers : right) {
            Check.right(1, T + "line a of " + numbers + ";");
        }
        String[] wrong = {"1 1 1", "1 0 0", "0 1 0", "0 0 1", "2 0 0", "0 2 0", "0 0 2", "1 1 4", "1 4 1", "4 1 1", "1 2 5",
            "3 2 2", "99 99 99", "99 0 97"};
        for (String numbers : wrong) {
            Check.fault(6, T + "line a of " + numbers + "^;");
            Check.fault(6, T + "line a of " + numbers + " \n ^;");
            Check.fault(6, L + "line b of " + numbers + "^;");
        }
        // an EDGE with both SIDES in one PIECE counts twice there
        Check.right(1, "piece 0 0 1;piece 1 2 2;line a of 1 2 1;");
        Check.right(1, "piece 0 0 1;piece 1 2 2;line a of 1 0 0;");
        Check.fault(6, "piece 0 0 1;piece 1 2 2;line a of 1 1 1^;");
        Check.fault(6, "piece 0 0 1;piece 1 2 2;line a of 1 2 0^;");
        Check.fault(6, "piece 0 0 1;piece 1 2 2;line a of 0 2 1^;");
        Check.fault(6, "piece 0 0 1;piece 1 2 2;line a of 1 4 2^;");
    }

    private static void words() {
        StringBuilder text = new StringBuilder(L);
        for (int count = 0; count <= 6; count++) {
            LoopGround x = Check.on(text.toString());
            Check.due("words of " + text, x.about(5), count);
            Check.due("the last word", x.kept(count - 1), count == 0 ? LoopGround.NONE : 1);
            Check.due("none behind it", x.kept(count), LoopGround.NONE);
            text.append("word ").append((char) ('a' + count)).append(" is a 1;");
            if (count == 5) {
                Check.fault(2, text + "^word g is a 1;");
                Check.fault(2, text + "^word a is a 1;");
                Check.fault(2, text + "^word");
                Check.fault(2, text + "line b of 0 1 1;^word g");
                break;
            }
        }
        Check.due("six words", Check.on(text.toString()).about(5), 6);
    }

    private static void twists() {
        for (int count = 1; count <= 8; count++) {
            Check.right(1, L + "word w is" + " a 1".repeat(count) + ";");
        }
        Check.fault(2, L + "word w is^;");
        Check.fault(2, L + "word w is" + " a 1".repeat(8) + " ^a 1;");
        Check.fault(2, L + "word w is" + " a 1".repeat(8) + " ^b 1;");
        Check.fault(1, L + "word w is" + " a 1".repeat(8) + " ^abcdefghi 1;");
        Check.fault(2, L + "word w is" + " a 1".repeat(8) + "^");
        Check.fault(2, L + "word w is" + " a 1".repeat(8) + " ^1;");
        Check.fault(2, L + "word w is" + " a 1".repeat(7) + " a^;");
        for (int times = -12; times <= 12; times++) {
            if (times != 0 && times >= -9 && times <= 9) {
                Check.right(1, L + "word w is a " + times + ";");
            } else {
                Check.fault(4, L + "word w is a ^" + times + ";");
                Check.fault(4, L + "word w is" + " a 1".repeat(7) + " a ^" + times + ";");
            }
        }
        Check.fault(4, L + "word w is a ^-0;");
        Check.fault(4, L + "word w is a ^- 0;");
        Check.fault(4, L + "word w is a \n^-\n10;");
        Check.fault(2, L + "word w is a -^;");
        Check.fault(2, L + "word w is a -^ ".trim());
        Check.fault(2, L + "word w is a -^a 1;");
        Check.fault(2, L + "word w is a 1 ^-1;");
        Check.fault(1, L + "word w is a -^$");
        // a LINE told ahead, not behind
        Check.fault(5, L + "word w is ^b 1;line b of 0 1 1;");
        Check.right(2, L + "line b of 0 1 1;word w is b 1;");
        Check.fault(5, L + "word w is a 1 ^w 1;");
    }

    private static void namesToldAlready() {
        Check.right(1, T + "line a of 0 1 1;word a is a 1;");
        Check.fault(3, L + "line ^a of 0 1 1;");
        Check.fault(3, L + "line b of 0 1 1;line ^b of 0 1 1;");
        Check.fault(3, L + "line b of 0 1 1;line ^a of 0 1 1;");
        Check.fault(3, T + lines(0, 7) + "line ^g of 0 1 1;");
        Check.fault(3, L + "word a is a 1;word ^a is a 1;");
        Check.fault(3, L + "word a is a 1;word b is a 1;word ^b is a 1;");
        Check.fault(3, L + "word a is a 1;word b is a 1;word ^a is a 1;");
        Check.right(2, L + "word b is a 1;line b of 0 1 1;word c is b 1;");
        Check.fault(5, L + "word b is a 1;word c is ^b 1;");
    }

    private static void atOnePlaceTheLeast() {
        // 2 ahead of 6: at the text's end, at a ; that comes too early
        Check.fault(2, "piece 0 1 2^");
        Check.fault(2, "piece 0 1 2;piece^");
        Check.fault(2, T + "line a of 1 0^;");
        // 2 ahead of 3, 4 and 5: what is too many is too many, be it what it may
        Check.fault(2, "piece 0 0 1 ^0;");
        Check.fault(2, T + "line a of 0 1 1 ^100;");
        Check.fault(2, T + "line a of 1 1 1 ^1;");
        Check.fault(2, L + "word w is" + " a 1".repeat(8) + " ^b 1;");
        // 1 ahead of all others
        Check.fault(1, "piece 0 0 1 ^00000;");
        Check.fault(1, T + "line a of 0 1 1 ^00100;");
        Check.fault(1, "piece 0 1 2;^$");
        Check.fault(1, T + "line a of 1 0^$");
        // by its place a later one counts not
        Check.fault(4, "piece ^18 0 0 0 $");
        Check.fault(3, "piece 0 0 ^0 18 $");
        Check.fault(2, "piece 0 0 ^; $");
        Check.fault(6, "piece 0 0 1;^line line $");
        Check.fault(4, L + "word w is a ^-10 $");
        Check.fault(5, L + "word w is ^b 0 $");
        Check.fault(6, T + "line a of 0 0 2^;$");
    }

    private static void numberedAsTold() {
        LoopGround x = Check.on(T + "line z of 0 1 1;line a of 1 0 1;line m of 1 1 0;word z is a 1;word a is z 1;word m is m 1;");
        Check.numbers(x, 0, 0, 1, 1);
        Check.numbers(x, 1, 1, 0, 1);
        Check.numbers(x, 2, 1, 1, 0);
        Check.due("kept(0)", x.kept(0), 0b010);
        Check.due("kept(1)", x.kept(1), 0b001);
        Check.due("kept(2)", x.kept(2), 0b100);
    }
}
