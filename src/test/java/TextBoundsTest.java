/** The most and the least of all that a text tells, at each place where it can stand: the last inside, the first out. */
public final class TextBoundsTest {
    private static final String T = Check.TORUS;
    private static final String L = T + "line a of 0 1 1;";

    public static void main(String[] args) {
        everyByteAlone();
        everyByteBehindANumber();
        everyByteBehindAWord();
        letters();
        digits();
        blanks();
        words();
        bytes();
        Check.finish(TextBoundsTest.class);
    }

    private static boolean isLetter(int b) {
        return b >= 97 && b <= 122;
    }

    private static boolean isDigit(int b) {
        return b >= 48 && b <= 57;
    }

    private static void everyByteAlone() {
        for (int b = 0; b < 256; b++) {
            String text = "" + (char) b;
            if (b == 32 || b == 10) {
                Check.right(0, text);
            } else {
                boolean token = isLetter(b) || isDigit(b) || b == ';' || b == '-';
                Check.fault(token ? 2 : 1, 0, text);
            }
        }
    }

    private static void everyByteBehindANumber() {
        for (int b = 0; b < 256; b++) {
            String text = "piece 1" + (char) b;
            if (isLetter(b)) {
                Check.fault(1, 6, text);
            } else if (isDigit(b)) {
                Check.fault(b >= '8' ? 4 : 2, b >= '8' ? 6 : 8, text);
            } else if (b == 32 || b == 10) {
                Check.fault(2, 8, text);
            } else {
                Check.fault(b == ';' || b == '-' ? 2 : 1, 7, text);
            }
        }
        Check.fault(2, "piece 1 ^a");
        Check.fault(2, "piece 1\n^a");
    }

    private static void everyByteBehindAWord() {
        for (int b = 0; b < 256; b++) {
            String text = "piece" + (char) b;
            if (isLetter(b)) {
                Check.fault(2, 0, text);
            } else if (isDigit(b) || b == 32 || b == 10) {
                Check.fault(2, 6, text);
            } else {
                Check.fault(b == ';' || b == '-' ? 2 : 1, 5, text);
            }
        }
    }

    private static void letters() {
        Check.right(1, T + "line abcdefgh of 0 1 1;word abcdefgh is abcdefgh 1;");
        Check.right(1, T + "line zzzzzzzz of 0 1 1;word zzzzzzzz is zzzzzzzz 1 zzzzzzzz -1;");
        Check.fault(1, T + "line ^abcdefghi of 0 1 1;");
        Check.fault(1, L + "word ^abcdefghi is a 1;");
        Check.fault(1, L + "word w is ^abcdefghi 1;");
        Check.fault(2, "^abcdefgh");
        Check.fault(1, "^abcdefghi");
        Check.fault(2, T + "line a ^abcdefgh");
        Check.fault(1, T + "line a ^abcdefghi");
        Check.fault(5, L + "word w is ^abcdefgh 1;");
        // a word is as long as can be: two that stand together are one
        Check.fault(2, "^piecea 0 1 2;");
        Check.fault(2, T + "^linea of 0 1 1;");
        Check.fault(1, "^piecepiece 0 1 2;");
        Check.fault(2, T + "line ^of 0 1 1;");
        // NAMES go by all of their letters
        Check.right(3, T + "line a of 0 1 1;line aa of 0 1 1;line aaaaaaaa of 0 1 1;");
        Check.right(2, T + "line abcdefgh of 0 1 1;line abcdefgi of 0 1 1;");
        Check.right(2, T + "line abcdefgh of 0 1 1;line bbcdefgh of 0 1 1;");
        Check.fault(3, T + "line abcdefgh of 0 1 1;line ^abcdefgh of 0 1 1;");
        Check.fault(1, "^" + "a".repeat(1600));
        // of 33 letters the first 20 would fall out of a number of 64 bits
        Check.fault(1, T + "line ^" + "b".repeat(20) + "a".repeat(13) + " of 0 1 1;");
    }

    private static void digits() {
        Check.right(0, "piece 0000 0001 0002;piece 0 1 2;");
        Check.right(1, T + "line a of 0000 0099 0099;word w is a 0009 a -0009 a - 0001;");
        Check.fault(1, "piece ^00000 1 2;");
        Check.fault(1, "piece 0 1 ^00002;");
        Check.fault(1, T + "line a of ^00000 1 1;");
        Check.fault(1, T + "line a of 0 1 ^00001;");
        Check.fault(1, L + "word w is a ^00001;");
        Check.fault(1, L + "word w is a -^00001;");
        Check.fault(4, "piece ^9999 1 2;");
        Check.fault(4, T + "line a of ^9999 1 1;");
        Check.fault(4, L + "word w is a ^9999;");
        Check.fault(1, "piece ^10000 1 2;");
        // numbers that are 1 and 0 again in 32 and 64 bits
        Check.fault(1, "piece ^4294967297 1 2;");
        Check.fault(1, T + "line a of ^18446744073709551616 1 1;");
        Check.fault(1, "piece ^" + "0".repeat(1594));
        // a number is as long as can be
        Check.fault(4, "piece ^123;");
        Check.fault(2, "piece 012^;");
        Check.fault(2, T + "line a of 011^;");
        // no letter directly behind one, at each place where one stands
        Check.fault(1, "piece 0 1 ^2a;");
        Check.fault(1, "piece 0 1 ^2of");
        Check.fault(1, T + "line a of 0 1 ^1a");
        Check.fault(1, L + "word w is a ^1a 1;");
        Check.fault(1, L + "word w is a -^1a 1;");
        Check.fault(1, "piece ^0000a");
        Check.fault(2, "^1");
        Check.fault(1, "^1z");
        Check.fault(2, "^1{");
    }

    private static void blanks() {
        Check.right(1, "piece0 1 2;piece0 1 2;line a of0 1 1;word w is a1 a-1 a- 1;");
        Check.right(1, "\n\npiece\n0\n1\n2\n;\npiece\n0\n1\n2\n;\nline\na\nof\n0\n1\n1\n;\nword\nw\nis\na\n-\n1\n;\n\n");
        Check.right(1, "  piece  0  1  2  ;  piece  0  1  2  ;  line  a  of  0  1  1  ;  word  w  is  a  -  1  ;  ");
        Check.right(0, "");
        Check.right(0, " ");
        Check.right(0, " ".repeat(1600));
        Check.right(0, "\n".repeat(1600));
        for (int b : new int[] {0, 9, 11, 12, 13, 31, 33, 138, 160}) {
            Check.fault(1, 5, "piece" + (char) b + "0 1 2;");
        }
    }

    private static void words() {
        String[] reserved = {"piece", "line", "of", "word", "is"};
        for (String word : reserved) {
            Check.fault(2, T + "line ^" + word + " of 0 1 1;");
            Check.fault(2, L + "word ^" + word + " is a 1;");
            Check.fault(2, L + "word w is ^" + word + " 1;");
            Check.fault(2, L + "word w is a 1 ^" + word + " 1;");
            boolean begins = word.equals("line") || word.equals("word");
            Check.fault(2, begins ? L + word + "^" : L + "^" + word);
        }
        String[] near = {"pieces", "piec", "apiece", "lines", "lin", "off", "o", "f", "fo", "words", "wor", "iss", "i", "si"};
        for (String name : near) {
            Check.right(1, T + "line " + name + " of 0 1 1;word " + name + " is " + name + " 1;");
            Check.fault(2, T + "^" + name);
        }
        Check.fault(2, T + "line a ^is 0 1 1;");
        Check.fault(2, L + "word w ^of a 1;");
        Check.fault(2, T + "line a ^0 1 1;");
        Check.fault(2, L + "word w ^a 1;");
        Check.fault(2, "^is");
        Check.fault(2, "word^");
        Check.fault(2, "line^");
    }

    private static String filled(String front, String back) {
        return front + " ".repeat(1600 - front.length() - back.length()) + back;
    }

    private static void bytes() {
        Check.right(1, filled(T, "line a of 0 1 1;"));
        Check.right(1, filled(L, " "));
        Check.right(1, filled("", L));
        Check.fault(1, 1599, filled(L, "$"));
        Check.fault(6, 1599, filled(T, "line a of 0 1 2;"));
        Check.fault(2, 1599, filled(T, "line a of 0 1;"));
        Check.fault(2, 1599, filled(L, ";"));
        Check.fault(2, 1599, filled(L, "a"));
        Check.fault(2, 1600, filled(T, "line a of 0 1 1"));
        Check.fault(2, 1600, filled("piece 0 1 2", " "));
        Check.fault(6, 1600, filled("piece 0 1 2;", " "));
        Check.fault(6, 1600, filled("", "piece 0 1 2;"));
        Check.fault(2, 1600, filled(T, "line"));
        // the full object's text is not too long, and one byte more than 1,600 comes not on the TAPE
        Check.right(8, Check.FULL);
        Check.right(8, Check.FULL + " ".repeat(1600 - Check.FULL.length()));
        Check.due("1601 bytes", Check.feed(new LoopGround(), filled(L, " ") + " "), false);
    }
}
