import java.util.function.Consumer;
import java.util.function.ToLongFunction;

/** What a call leaves as it was: each that is refused, and each that only asks. */
public final class RefusedTest {
    private static final int NONE = LoopGround.NONE;
    private static final int MOST = Integer.MAX_VALUE;
    private static final int LEAST = Integer.MIN_VALUE;
    private static final String TEXT = Check.TWO_HANDLES + "line a of 1 0 0 0 1 0 0 0 0;line b of 0 1 0 0 1 1 0 0 0;"
        + "line c of 0 0 1 0 0 0 0 1 1;line s of 2 2 0 0 2 2 0 0 0;line both of 1 0 0 1 1 0 0 0 1;"
        + "line no of 0 0 0 0 0 0 0 0 0;word r is a 1 b 1;word z is a 1 s 1;word y is both 1;"
        + "word g is a 9 b -9 a 9 b -9 a 9 b -9 a 9 b -9;";
    private static final int LINES = 6;
    private static final int WORDS = 4;
    private static final int EDGES = 9;

    public static void main(String[] args) {
        tape();
        questions();
        wrongQuestions();
        wrongActs();
        spentActs();
        nothingToUndo();
        boxes();
        grounds();
        sketches();
        leasts();
        Check.finish(RefusedTest.class);
    }

    /** A GROUND, a FAULT behind it, ACTS done and undone, two BOXES of three, a row that lies there, a TAPE. */
    private static void way(LoopGround x) {
        Check.feed(x, TEXT);
        x.ground();
        Check.feed(x, "  $");
        x.ground();
        x.lay(0);
        x.image(2);
        x.twist(1, 2);
        x.go(0);
        x.image(0);
        x.lay(2);
        x.undo();
        x.undo();
        x.least(0, 1);
        Check.feed(x, "0bfe");
    }

    private static void leaves(String call, ToLongFunction<LoopGround> asked, long answer) {
        State.leaves(call, RefusedTest::way, asked, answer);
    }

    private static void leavesAnswering(String call, ToLongFunction<LoopGround> asked) {
        LoopGround x = new LoopGround();
        way(x);
        leaves(call, asked, asked.applyAsLong(x));
    }

    private static void tape() {
        Consumer<LoopGround> long1581 = x -> {
            way(x);
            Check.feed(x, "bb".repeat(788) + "b");
        };
        State.leaves("feed behind 1581 bytes", long1581, x -> x.feed(1, 2, 3, 4, 5), NONE);
        State.leaves("end(1582) of 1581", long1581, x -> x.end(1582), NONE);
        State.leaves("end(-1) of 1581", long1581, x -> x.end(-1), NONE);
        State.leaves("end(1581) of 1581", long1581, x -> x.end(1581), 1581);
        // 1580 bytes: twenty more make it full
        LoopGround x = new LoopGround();
        long1581.accept(x);
        x.end(1580);
        Check.due("feed behind 1580 bytes", x.feed(0, 0, 0, 0, 0), 1600);
        leaves("end(5) of 4", y -> y.end(5), NONE);
        leaves("end(most)", y -> y.end(MOST), NONE);
        leaves("end(least)", y -> y.end(LEAST), NONE);
        leaves("end(4) of 4", y -> y.end(4), 4);
        // a TAPE that was refused something is still the GROUND that it was
        LoopGround full = new LoopGround();
        Check.feed(full, TEXT + " ".repeat(1600 - TEXT.length()));
        Check.due("feed", full.feed(-1, -1, -1, -1, -1), NONE);
        Check.due("end", full.end(1601), NONE);
        Check.due("ground()", full.ground(), LINES);
        // what comes behind end() comes behind the bytes that are left
        LoopGround cut = new LoopGround();
        Check.feed(cut, "piece 0 1 2;$$$$$$$$");
        Check.due("end", cut.end(12), 12);
        Check.feed(cut, "piece 0 1 2;");
        Check.due("ground()", cut.ground(), 0);
        Check.due("pieces", cut.about(0), 2);
    }

    private static void questions() {
        for (int i = -1; i <= EDGES; i++) {
            int n = i;
            leavesAnswering("fault(" + i + ")", x -> x.fault(n));
            leavesAnswering("about(" + i + ")", x -> x.about(n));
            leavesAnswering("lies(" + i + ")", x -> x.lies(n));
            leavesAnswering("number(-1, " + i + ")", x -> x.number(-1, n));
            leavesAnswering("point(" + i + ", 1)", x -> x.point(n, 1));
            leavesAnswering("loops(" + i + ", 2)", x -> x.loops(n, 2));
            leavesAnswering("loops(-1, " + i + ")", x -> x.loops(-1, n));
            leavesAnswering("traced(-1, " + i + ")", x -> x.traced(-1, n));
            leavesAnswering("flips(" + i + ")", x -> x.flips(n));
            leavesAnswering("flip(1, " + i + ")", x -> x.flip(1, n));
            leavesAnswering("cross(-1, " + i + ")", x -> x.cross(-1, n));
            leavesAnswering("cross(" + i + ", 1)", x -> x.cross(n, 1));
            leavesAnswering("across(1, " + i + ")", x -> x.across(1, n));
            leavesAnswering("kept(" + i + ")", x -> x.kept(n));
            leavesAnswering("alike(0, " + i + ")", x -> x.alike(0, n));
            leavesAnswering("order(" + i + ")", x -> x.order(n));
            leavesAnswering("stretch(0, 1, " + i + ")", x -> x.stretch(0, 1, n));
            leavesAnswering("stretch(3, 1, " + i + ")", x -> x.stretch(3, 1, n));
            leavesAnswering("table(0, 1, 1, " + i + ")", x -> x.table(0, 1, 1, n));
            leavesAnswering("polynomial(0, 1, " + i + ")", x -> x.polynomial(0, 1, n));
        }
    }

    private static void wrongQuestions() {
        leaves("number(6, 0)", x -> x.number(LINES, 0), -2);
        leaves("number(-2, 0)", x -> x.number(-2, 0), -2);
        leaves("number(0, 9)", x -> x.number(0, EDGES), -2);
        leaves("traced(6, 0)", x -> x.traced(LINES, 0), NONE);
        leaves("traced(5, 0)", x -> x.traced(5, 0), NONE);
        leaves("flips(3)", x -> x.flips(3), -2);
        leaves("flips(4)", x -> x.flips(4), NONE);
        leaves("flips(5)", x -> x.flips(5), NONE);
        leaves("cross(0, 3)", x -> x.cross(0, 3), NONE);
        leaves("cross(0, 4)", x -> x.cross(0, 4), NONE);
        leaves("across(0, 4)", x -> x.across(0, 4), LoopGround.GAP);
        leaves("kept(1)", x -> x.kept(1), NONE);
        leaves("alike(0, 2)", x -> x.alike(0, 2), NONE);
        leaves("order(4)", x -> x.order(WORDS), NONE);
        leaves("stretch(3, 1, 20)", x -> x.stretch(3, 1, 20), -2);
        leaves("stretch(0, 5, 0)", x -> x.stretch(0, 5, 0), NONE);
        leaves("table(0, 1, 9, 0)", x -> x.table(0, 1, EDGES, 0), NONE);
        leaves("polynomial(0, 1, 10)", x -> x.polynomial(0, 1, EDGES + 1), NONE);
    }

    private static void wrongActs() {
        for (int line : new int[] {-1, LINES, MOST, LEAST}) {
            leaves("lay(" + line + ")", x -> x.lay(line), NONE);
        }
        for (int line : new int[] {-1, 3, 4, 5, LINES, MOST, LEAST}) {
            leaves("twist(" + line + ", 1)", x -> x.twist(line, 1), NONE);
        }
        for (int times : new int[] {0, 100, -100, MOST, LEAST}) {
            leaves("twist(1, " + times + ")", x -> x.twist(1, times), NONE);
        }
        for (int word : new int[] {-1, 1, 2, WORDS, MOST, LEAST}) {
            leaves("go(" + word + ")", x -> x.go(word), NONE);
        }
    }

    private static void spentActs() {
        Consumer<LoopGround> grown = x -> {
            way(x);
            while (x.go(3) != -2) {
                x.image(1);
            }
            x.undo();
            x.go(0);
            x.undo();
            while (x.go(3) != -2) {
                x.image(1);
            }
        };
        State.leaves("go(3), spent", grown, x -> x.go(3), -2);
        State.leaves("twist(0, 99), spent behind others", x -> {
            grown.accept(x);
            while (x.twist(0, 99) != -2 && x.twist(1, -99) != -2) {
                x.image(1);
            }
        }, x -> x.twist(0, 99) == -2 || x.twist(1, -99) == -2 ? 1 : 0, 1);
        State.leaves("cross with a line grown", grown, x -> x.cross(NONE, 1) > 0 ? 1 : 0, 1);
        State.leaves("loops of a line grown", grown, x -> x.loops(NONE, 0), -2);
        State.leaves("traced of a line grown", grown, x -> x.traced(NONE, 0), -2);
    }

    private static void nothingToUndo() {
        Consumer<LoopGround> undone = x -> {
            way(x);
            while (x.undo()) {
                x.image(1);
            }
        };
        Consumer<LoopGround> redone = x -> {
            way(x);
            while (x.redo()) {
                x.image(1);
            }
        };
        State.leaves("undo()", undone, x -> x.undo() ? 1 : 0, 0);
        State.leaves("redo()", redone, x -> x.redo() ? 1 : 0, 0);
        leaves("undo() and redo()", x -> x.undo() && x.redo() ? 1 : 0, 1);
        leaves("redo() and undo()", x -> x.redo() && x.undo() ? 1 : 0, 1);
    }

    private static void boxes() {
        for (int box : new int[] {3, -1, MOST, LEAST}) {
            leaves("image(" + box + ")", x -> x.image(box), NONE);
            leaves("back(" + box + ")", x -> x.back(box), NONE);
        }
        leaves("back(1), where nothing was kept", x -> x.back(1), NONE);
    }

    /** A FAULT leaves all but the TAPE, which is empty then, and what fault() tells. */
    private static void grounds() {
        String[] faults = {"$", "piece 0 1 2;", "piece 0 1 2;piece 0 1 2;line q of 1 1 1;", "word q is a 1;", "foo",
            TEXT + "line a of 0 0 0 0 0 0 0 0 0;", TEXT + ";", TEXT.replace("word g", "word r"), Check.FULL + "line"};
        int[] kinds = {1, 6, 6, 5, 2, 3, 2, 3, 2};
        for (int i = 0; i < faults.length; i++) {
            String text = faults[i];
            int kind = kinds[i];
            LoopGround other = new LoopGround();
            Check.feed(other, text);
            other.ground();
            int place = other.fault(1);
            State.leaves("ground() of " + text, x -> {
                way(x);
                x.end(0);
            }, x -> {
                x.end(0);
                Check.feed(x, text);
                Check.due("ground()", x.ground(), NONE);
                int told = x.fault(0);
                Check.due("its place", x.fault(1), place);
                Check.due("the TAPE is empty", x.about(8), 0);
                // the FAULT of the way itself, so that all can be compared
                Check.feed(x, "  $");
                x.ground();
                return told;
            }, kind);
        }
    }

    /** What is no SKETCH, or not TRUE, leaves all but the TAPE and the row: none lies there then. */
    private static void sketches() {
        String[] wrong = {"", "6bfe", "0bf", "0xfe", "0", "0bb", "0bfebfe"};
        long[] answers = {NONE, NONE, NONE, NONE, -2, -2, -2};
        for (int i = 0; i < wrong.length; i++) {
            String text = wrong[i];
            State.leaves("sketch of " + text, x -> {
                way(x);
                x.end(0);
                x.least(0, 0);
            }, x -> {
                x.least(0, 1);
                Check.due("a row lies there", x.lies(3), 1);
                x.end(0);
                Check.feed(x, text);
                long answer = x.sketch();
                Check.due("the TAPE is empty", x.about(8), 0);
                Check.due("none lies there", x.lies(3), NONE);
                return answer;
            }, answers[i]);
        }
        // one that is TRUE leaves all but these, too
        State.leaves("sketch that is true", x -> {
            way(x);
            Check.due("sketch", x.sketch(), 3);
        }, x -> {
            x.least(0, 1);
            return Check.sketch(x, "0bfe");
        }, 3);
    }

    private static void leasts() {
        int[][] wrong = {{0, 0}, {0, 4}, {0, -1}, {1, 1}, {2, 1}, {WORDS, 1}, {-1, 1}, {0, MOST}};
        for (int[] w : wrong) {
            State.leaves("least(" + w[0] + ", " + w[1] + ")", x -> {
                way(x);
                Check.sketch(x, "?");
                Check.feed(x, "0bfe");
            }, x -> {
                Check.due("a row lies there", x.least(0, 1), 2);
                return x.least(w[0], w[1]);
            }, NONE);
        }
        State.leaves("least(0, 3)", x -> {
            way(x);
            Check.sketch(x, "?");
            Check.feed(x, "0bfe");
        }, x -> {
            Check.due("a row lies there", x.least(0, 1), 2);
            return x.least(0, 3);
        }, -2);
        leaves("least(0, 1) once more", x -> x.least(0, 1), 2);
    }
}
