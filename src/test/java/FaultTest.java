/** Promises 4 and 5: texts that are right, and the first FAULT of those that are not, at the place of the sign ^. */
public final class FaultTest {
    private static final String T = Check.TORUS;
    private static final String L = T + "line a of 0 1 1;";

    public static void main(String[] args) {
        noToken();
        misplaced();
        toldAlready();
        noNumber();
        noLine();
        notFitting();
        theFirstByItsPlace();
        right();
        allStays();
        allIsNew();
        Check.finish(FaultTest.class);
    }

    private static void noToken() {
        Check.fault(1, "^$");
        Check.fault(1, " \n ^\t");
        Check.fault(1, "^Piece 0 1 2;");
        Check.fault(1, "piece 0 1 2^,");
        Check.fault(1, "piece ^00000 1 2;");
        Check.fault(1, "piece ^0a 1 2;");
        Check.fault(1, "piece 0 ^1piece");
        Check.fault(1, "piece 0^A 1 2;");
        Check.fault(1, T + "line ^abcdefghi of 0 1 1;");
        Check.fault(1, T + "line a of 0 1 ^1word w is a 1;");
        Check.fault(1, L + "word w is a -^10x;");
        Check.fault(1, "^abcdefghi");
        Check.fault(1, "^\u00e9");
        Check.fault(1, "piece 0 1 2;\0^".replace("\0^", "^\0"));
    }

    private static void misplaced() {
        Check.fault(2, "^loop");
        Check.fault(2, "^;");
        Check.fault(2, "^-");
        Check.fault(2, "^0");
        Check.fault(2, "^of");
        Check.fault(2, "piece^");
        Check.fault(2, "piece \n ^");
        Check.fault(2, "piece 0 1 2^");
        Check.fault(2, "piece ^-1 0 1;");
        Check.fault(2, "piece 0 1 ^;");
        Check.fault(2, "piece 0 1 2 ^3;");
        Check.fault(2, "piece 0 1 2;^;");
        Check.fault(2, T + "^a");
        Check.fault(2, T + "line ^of of 0 1 1;");
        Check.fault(2, T + "line ^piece of 0 1 1;");
        Check.fault(2, T + "line ^7 of 0 1 1;");
        Check.fault(2, T + "line a ^is 0 1 1;");
        Check.fault(2, T + "line a ^off 0 1 1;");
        Check.fault(2, T + "line a of ^;");
        Check.fault(2, T + "line a of 0 1 ^;");
        Check.fault(2, T + "line a of 0 1 1 ^0;");
        Check.fault(2, T + "line a of 0 1 1 ^100;");
        Check.fault(2, T + "line a of 0 1 ^-1;");
        Check.fault(2, T + "line a of 0 1 ^b");
        Check.fault(2, L + "^piece 3 4 5;");
        Check.fault(2, L + "word w is a 1;^piece 3 4 5;");
        Check.fault(2, L + "word ^is is a 1;");
        Check.fault(2, L + "word ^word is a 1;");
        Check.fault(2, L + "word w ^of a 1;");
        Check.fault(2, L + "word w is ^;");
        Check.fault(2, L + "word w is ^1;");
        Check.fault(2, L + "word w is ^line 1;");
        Check.fault(2, L + "word w is a ^;");
        Check.fault(2, L + "word w is a ^b;");
        Check.fault(2, L + "word w is a -^-1;");
        Check.fault(2, L + "word w is a - ^;");
        Check.fault(2, L + "word w is a 1 ^1;");
        Check.fault(2, L + "word w is a 1 ^of;");
        Check.fault(2, L + "word w is a 1^");
        Check.fault(2, L + "word w is a 1 a 1 a 1 a 1 a 1 a 1 a 1 a 1 ^a 1;");
        Check.fault(2, L + "word w is a 1 a 1 a 1 a 1 a 1 a 1 a 1 a 1 ^z 1;");
        Check.fault(2, L + "line b of 0 1 1;line c of 0 1 1;line d of 0 1 1;line e of 0 1 1;line f of 0 1 1;"
            + "line g of 0 1 1;line h of 0 1 1;^line i of 0 1 1;");
        Check.fault(2, L + "word a is a 1;word b is a 1;word c is a 1;word d is a 1;word e is a 1;word f is a 1;^word f is");
        Check.fault(2, twelvePieces() + "^piece 0 0 0;");
        Check.fault(2, "line a of ^1;");
        Check.fault(2, "line a of^;");
    }

    private static void toldAlready() {
        Check.fault(3, "piece 0 0 ^0");
        Check.fault(3, "piece 0 0 ^0000;");
        Check.fault(3, T + "piece ^2 3 4;");
        Check.fault(3, T + "piece 3 3 ^3;");
        Check.fault(3, L + "line ^a of 0 1 1;");
        Check.fault(3, L + "word a is a 1;word ^a is a 1;");
    }

    private static void noNumber() {
        Check.fault(4, "piece ^18 0 1;");
        Check.fault(4, "piece 0 1 ^9999;");
        Check.fault(4, T + "line a of ^100 1 1;");
        Check.fault(4, T + "line a of 0 1 ^0100;");
        Check.fault(4, L + "word w is a ^0;");
        Check.fault(4, L + "word w is a ^10;");
        Check.fault(4, L + "word w is a ^-0;");
        Check.fault(4, L + "word w is a ^- 10;");
        Check.fault(4, L + "word w is a^-\n\n9999;");
        Check.fault(4, L + "word w is a 9 a ^-10$");
    }

    private static void noLine() {
        Check.fault(5, L + "word w is ^b 1;");
        Check.fault(5, L + "word w is ^w 1;");
        Check.fault(5, L + "word v is a 1;word w is ^v 1;");
        Check.fault(5, L + "word w is ^aa 1;");
        Check.fault(5, L + "word w is a 1 ^ab 1;");
        Check.fault(5, T + "word w is ^a 1;");
        Check.fault(5, "word w is ^a 1;");
    }

    private static void notFitting() {
        Check.fault(6, "piece 0 1 2;^");
        Check.fault(6, "piece 0 1 2; \n ^");
        Check.fault(6, "piece 0 1 2; ^line a");
        Check.fault(6, "piece 0 1 2;^word w");
        Check.fault(6, "piece 0 1 2;piece 0 1 3;^");
        Check.fault(6, "piece 0 1 3;piece 0 1 3;^");
        Check.fault(6, "piece 1 2 3;piece 1 2 3;^");
        Check.fault(6, "piece 0 0 1;piece 1 2 2;piece 3 4 5;piece 3 4 5;^");
        Check.fault(6, T + "piece 3 4 5;^line");
        Check.fault(6, T + "line a of 1 1 1^;");
        Check.fault(6, T + "line a of 0 1 3 ^;");
        Check.fault(6, T + "line a of 4 1 1^;");
        Check.fault(6, T + "line a of 0 1 1;line b of 0 0 2^;");
        Check.fault(6, "piece 0 0 1;piece 1 2 2;line a of 0 2 0^;");
        Check.fault(6, "piece 0 0 1;piece 1 2 2;line a of 1 3 2^;");
        // each of the PIECES is looked at: only the first, the second, the last one does not fit
        Check.fault(6, Check.FOUR_POINTS + "line a of 0 2 1 1 0 0^;");
        Check.fault(6, Check.FOUR_POINTS + "line a of 1 2 0 0 0 0^;");
        Check.fault(6, Check.FOUR_POINTS + "line a of 0 0 1 1 2 0^;");
        Check.fault(6, "piece 0 0 1;piece 1 2 2;line a of 1 1 1^;");
    }

    private static void theFirstByItsPlace() {
        Check.fault(2, "piece 0 1 2;^foo");
        Check.fault(1, "piece 0 1 2;^Foo");
        Check.fault(1, "piece 0 1 ^$ 18 0;");
        Check.fault(4, "piece ^18 $");
        Check.fault(3, "piece 0 0 ^0 18;");
        Check.fault(2, "piece 0 ^");
        Check.fault(6, "piece 0 1 2;^line line");
    }

    private static String twelvePieces() {
        return "piece 0 1 2;piece 0 1 3;piece 2 4 5;piece 3 4 6;piece 5 7 8;piece 6 7 9;piece 8 10 11;piece 9 10 12;"
            + "piece 11 13 14;piece 12 13 15;piece 14 16 17;piece 15 16 17;";
    }

    private static void right() {
        Check.right(0, "");
        Check.right(0, " \n\n ");
        Check.right(0, T);
        Check.right(0, "piece0 1 2;piece\n0001 2 00;");
        Check.right(0, twelvePieces());
        Check.right(1, L);
        Check.right(1, T + "line abcdefgh of 0 1 1;");
        Check.right(1, T + "line pieces of0 1 1;word ofis is pieces-9pieces9pieces - 1;".replace("9p", "9 p"));
        Check.right(1, T + "line a of 0099 99 0 ;word a is a 0009 a -9;");
        Check.right(2, L + "word a is a 1;line b of 0 0 0;word b is b 1 a 2;");
        Check.right(8, L + "line b of 0 1 1;line c of 0 1 1;line d of 0 1 1;line e of 0 1 1;line f of 0 1 1;"
            + "line g of 0 1 1;line h of 0 1 1;");
        Check.right(1, L + "word a is a 1;word b is a 1;word c is a 1;word d is a 1;word e is a 1;word f is a 1 a 1 a 1 a 1"
            + " a 1 a 1 a 1 a 1;");
        StringBuilder longest = new StringBuilder(L);
        while (longest.length() < 1600) {
            longest.append(' ');
        }
        Check.right(1, longest.toString());
        Check.fault(6, T + "line a of 2 0 0^;" + longest.substring(0, 1560 - L.length()));
    }

    private static void allStays() {
        LoopGround x = Check.on(Check.TORUS_LINES + "word w is a 1 b 1;word k is a 1;");
        x.lay(0);
        x.twist(1, 2);
        x.image(1);
        x.undo();
        Check.due("least", x.least(1, 1), 2);
        Check.feed(x, Check.FOUR_POINTS + "line z of 1;");
        Check.due("ground()", x.ground(), LoopGround.NONE);
        Check.due("fault(0)", x.fault(0), 2);
        Check.due("pieces stay", x.about(0), 2);
        Check.due("lines stay", x.about(4), 3);
        Check.due("words stay", x.about(5), 2);
        Check.due("undone can be", x.about(6), 1);
        Check.due("redone can be", x.about(7), 1);
        Check.due("the row lies there", x.lies(1), 1);
        Check.numbers(x, LoopGround.NONE, 0, 1, 1);
        Check.numbers(x, 2, 1, 1, 0);
        Check.due("kept", x.kept(1), 1);
        Check.due("redo", x.redo(), true);
        Check.due("back", x.back(1), x.number(-1, 0) + x.number(-1, 1) + x.number(-1, 2));
        Check.due("fault stays that of the latest ground()", x.fault(0), 2);
    }

    private static void allIsNew() {
        LoopGround x = Check.on(Check.TORUS_LINES + "word w is a 1 b 1;word k is a 1;");
        x.lay(0);
        x.lay(1);
        x.undo();
        x.image(0);
        x.least(1, 1);
        Check.feed(x, "$");
        x.ground();
        Check.feed(x, Check.TORUS + "line q of 2 2 2;");
        Check.due("ground()", x.ground(), 1);
        Check.due("fault(0)", x.fault(0), 0);
        Check.due("fault(1)", x.fault(1), LoopGround.NONE);
        Check.due("lines", x.about(4), 1);
        Check.due("words", x.about(5), 0);
        Check.due("undo", x.about(6), 0);
        Check.due("redo", x.about(7), 0);
        Check.due("undo()", x.undo(), false);
        Check.due("redo()", x.redo(), false);
        Check.due("no row", x.lies(0), LoopGround.NONE);
        Check.due("no image", x.back(0), LoopGround.NONE);
        Check.due("no word", x.kept(0), LoopGround.NONE);
        Check.due("no line", x.flips(1), LoopGround.NONE);
        Check.numbers(x, LoopGround.NONE, 0, 0, 0);
        Check.numbers(x, 0, 2, 2, 2);
        Check.due("ground() of nothing", x.ground(), 0);
        Check.due("pieces", x.about(0), 0);
        Check.due("points", x.about(2), 0);
        Check.due("number", x.number(-1, 0), -2);
        Check.due("line", x.number(0, 0), -2);
    }
}
