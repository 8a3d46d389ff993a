import java.util.ArrayList;
import java.util.List;

/** Promise 4: a GROUND told over another, on one object: nothing of what was told ahead is left, a FAULT leaves all. */
public final class AgainTest {
    private static final String[] RIGHT = {"", Check.TORUS, Check.TORUS_LINES + "word w is a 1 b 1;word v is a 1 b -1;",
        Check.FULL, Check.FOUR_POINTS + "line r of 1 0 0 0 0 0;line c of 1 2 2 0 2 1;line d of 1 2 0 2 2 1;word w is c 1;"
            + "word v is r 1;",
        Check.TORUS + "line r of 2 2 2;line q of 5 3 2;line no of 0 0 0;word r is q 1;word s is r 1;",
        Check.TWO_HANDLES + "line s of 2 2 0 0 2 2 0 0 0;line a of 1 0 0 0 1 0 0 0 0;line b of 0 1 0 0 1 1 0 0 0;"
            + "word w is a 1 b 1;",
        Check.ladder(10) + "line a of 1 1 0 0 0 0 0 0 0 0 0 0 0 0 0;word a is a 3;"};
    private static final String[] WRONG = {"$", "piece 17 17 16", "piece 0 0 1;piece 1 2 3;", Check.FULL + "line i of 1;",
        Check.FOUR_POINTS + "line z of 1 2 1 1 2 1;line y of 9 9 9 9 9 9;", Check.TORUS_LINES + "word w is a 9 b 9 c 9 d 9;"};

    public static void main(String[] args) {
        everyPair();
        allOneBehindTheOther();
        Check.finish(AgainTest.class);
    }

    /** All that a GROUND's LINES and WORDS answer. */
    private static List<Long> answers(LoopGround x) {
        List<Long> all = new ArrayList<>();
        int lines = x.about(4);
        int edges = x.about(1);
        for (int what = 0; what <= 5; what++) {
            all.add((long) x.about(what));
        }
        for (int corner = 0; corner < 3 * x.about(0); corner++) {
            all.add((long) x.point(corner / 3, corner % 3));
        }
        for (int line = -1; line <= lines; line++) {
            for (int edge = -1; edge <= edges; edge++) {
                all.add(x.number(line, edge));
                all.add((long) x.traced(line, edge));
                all.add((long) x.flip(line, edge));
            }
            for (int other = -1; other <= lines; other++) {
                all.add(x.cross(line, other));
                all.add((long) x.across(line, other));
            }
            all.add((long) x.loops(line, 0));
            all.add((long) x.loops(line, 1));
            all.add((long) x.loops(line, 2));
            all.add((long) x.flips(line));
        }
        for (int word = -1; word <= x.about(5); word++) {
            wordAnswers(x, word, all);
        }
        return all;
    }

    private static void wordAnswers(LoopGround x, int word, List<Long> all) {
        all.add((long) x.kept(word));
        all.add((long) x.order(word));
        all.add((long) x.alike(word, 0));
        all.add((long) x.least(word, 1));
        for (int edge = -1; edge <= x.about(1); edge++) {
            all.add((long) x.lies(edge));
        }
        for (int line = -1; line <= x.about(4); line++) {
            all.add(x.stretch(word, line, 2));
            for (int edge = 0; edge <= x.about(1); edge++) {
                all.add((long) x.table(word, line, edge, x.about(1) - 1));
                all.add((long) x.polynomial(word, line, edge));
            }
        }
    }

    private static void tell(LoopGround x, String text) {
        x.end(0);
        Check.feed(x, text);
        x.ground();
    }

    /** Something of each sort that ground() is to take away. */
    private static void use(LoopGround x) {
        answers(x);
        x.lay(0);
        x.image(0);
        x.lay(1);
        x.go(0);
        x.image(1);
        x.undo();
        Check.sketch(x, "0bc");
        x.least(0, 1);
    }

    private static void asNew(LoopGround x, String text) {
        LoopGround fresh = Check.on(text);
        Check.due("nothing is left", State.read(x).equals(State.read(fresh)), true);
        Check.due("all is answered as by a new object", answers(x).equals(answers(fresh)), true);
        Check.due("nothing is left", State.all(x).equals(State.all(fresh)), true);
    }

    private static void everyPair() {
        for (String first : RIGHT) {
            for (String second : RIGHT) {
                LoopGround x = Check.on(first);
                use(x);
                tell(x, second);
                asNew(x, second);
            }
            for (String wrong : WRONG) {
                LoopGround x = Check.on(first);
                answers(x);
                tell(x, wrong);
                Check.due("a fault", x.fault(0) > 0, true);
                Check.due("all stays", answers(x).equals(answers(Check.on(first))), true);
                // what the wrong text told is not left for the next
                for (String second : RIGHT) {
                    tell(x, wrong);
                    tell(x, second);
                    asNew(x, second);
                }
            }
        }
    }

    private static void allOneBehindTheOther() {
        LoopGround x = new LoopGround();
        for (int step = 1; step <= 7; step += 2) {
            for (int i = 0; i < RIGHT.length; i++) {
                String text = RIGHT[i * step % RIGHT.length];
                tell(x, text);
                asNew(x, text);
                use(x);
            }
        }
    }
}
