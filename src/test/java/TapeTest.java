/** Promises 1 to 3, and what about(8) tells of the tape. */
public final class TapeTest {
    public static void main(String[] args) {
        newObject();
        feedAndEnd();
        bytesInOrder();
        Check.finish(TapeTest.class);
    }

    private static void newObject() {
        LoopGround x = new LoopGround();
        int[] want = {0, 0, 0, 1, 0, 0, 0, 0, 0};
        for (int what = 0; what < want.length; what++) {
            Check.due("about(" + what + ") of a new object", x.about(what), want[what]);
        }
        Check.due("fault(0) of a new object", x.fault(0), 0);
        Check.due("fault(1) of a new object", x.fault(1), LoopGround.NONE);
        Check.due("fault(2) of a new object", x.fault(2), LoopGround.NONE);
        Check.due("fault(-1) of a new object", x.fault(-1), LoopGround.NONE);
        nothingIsThere(x);
    }

    private static void nothingIsThere(LoopGround x) {
        Check.due("point", x.point(0, 0), -1);
        Check.due("number of the line", x.number(-1, 0), -2);
        Check.due("loops of the line", x.loops(-1, 0), 0);
        Check.due("rings of the line", x.loops(-1, 1), 0);
        Check.due("single", x.loops(-1, 2), 0);
        Check.due("loops", x.loops(0, 0), -1);
        Check.due("traced of the line", x.traced(-1, 0), -1);
        Check.due("flips", x.flips(0), -1);
        Check.due("flip", x.flip(0, 0), -1);
        Check.due("cross", x.cross(-1, 0), -1);
        Check.due("across", x.across(0, 0), LoopGround.GAP);
        Check.due("kept", x.kept(0), -1);
        Check.due("alike", x.alike(0, 0), -1);
        Check.due("order", x.order(0), -1);
        Check.due("stretch", x.stretch(0, 0, 0), -1);
        Check.due("table", x.table(0, 0, 0, 0), -1);
        Check.due("polynomial", x.polynomial(0, 0, 0), -1);
        Check.due("least", x.least(0, 1), -1);
        Check.due("lies", x.lies(0), -1);
        Check.due("lay", x.lay(0), -1);
        Check.due("twist", x.twist(0, 1), -1);
        Check.due("go", x.go(0), -1);
        Check.due("undo", x.undo(), false);
        Check.due("redo", x.redo(), false);
        Check.due("sketch", x.sketch(), -1);
        Check.due("back", x.back(0), -1);
        Check.due("image", x.image(0), 0);
        Check.due("back of an image", x.back(0), 0);
        Check.due("about(9)", x.about(9), -1);
        Check.due("about(-1)", x.about(-1), -1);
    }

    private static void feedAndEnd() {
        LoopGround x = new LoopGround();
        for (int k = 1; k <= 80; k++) {
            Check.due("feed " + k, x.feed(k, -k, 0, Integer.MIN_VALUE, Integer.MAX_VALUE), 20 * k);
        }
        Check.due("feed 81", x.feed(0, 0, 0, 0, 0), LoopGround.NONE);
        Check.due("about(8)", x.about(8), 1600);
        Check.due("end(1601)", x.end(1601), LoopGround.NONE);
        Check.due("end(-1)", x.end(-1), LoopGround.NONE);
        Check.due("end(least)", x.end(Integer.MIN_VALUE), LoopGround.NONE);
        Check.due("about(8)", x.about(8), 1600);
        Check.due("end(1600)", x.end(1600), 1600);
        Check.due("end(1581)", x.end(1581), 1581);
        Check.due("feed to 1601", x.feed(0, 0, 0, 0, 0), LoopGround.NONE);
        Check.due("about(8)", x.about(8), 1581);
        Check.due("end(1580)", x.end(1580), 1580);
        Check.due("feed to 1600", x.feed(0, 0, 0, 0, 0), 1600);
        Check.due("end(0)", x.end(0), 0);
        Check.due("end(1)", x.end(1), LoopGround.NONE);
        Check.due("about(8)", x.about(8), 0);
    }

    private static void bytesInOrder() {
        // "piece 0 1 2;piece 0 " and "1 2;" with bytes behind it that end() takes away
        LoopGround x = new LoopGround();
        x.feed(0x70696563, 0x65203020, 0x3120323b, 0x70696563, 0x65203020);
        x.feed(0x3120323b, 0xffffffff, 0x80808080, -2, -3);
        Check.due("end(24)", x.end(24), 24);
        Check.due("ground()", x.ground(), 0);
        Check.due("pieces", x.about(0), 2);
        Check.due("tape is empty then", x.about(8), 0);
        // a byte above 127 is no token, and is found where it lies
        x.feed(0x20202020, 0x20ff2020, 0, 0, 0);
        Check.due("ground()", x.ground(), LoopGround.NONE);
        Check.due("fault(0)", x.fault(0), 1);
        Check.due("fault(1)", x.fault(1), 5);
        Check.due("tape is empty behind a fault", x.about(8), 0);
    }
}
