import java.util.function.Consumer;
import java.util.function.ToLongFunction;

/** All that can be seen of an object, and calls that are to leave it as it was. */
final class State {
    private State() {
    }

    /** What can be read without changing anything. */
    static String read(LoopGround x) {
        StringBuilder text = new StringBuilder("about");
        for (int what = 0; what <= 8; what++) {
            text.append(' ').append(x.about(what));
        }
        text.append("; fault ").append(x.fault(0)).append(' ').append(x.fault(1));
        for (int line = -1; line < x.about(4); line++) {
            text.append("; line ").append(line).append(numbers(x, line));
        }
        return text.append("; row").append(row(x)).toString();
    }

    /** What can be read, then what UNDO, REDO, BOXES and the TAPE as a SKETCH bring to light: the object is used up. */
    static String all(LoopGround x) {
        StringBuilder text = new StringBuilder(read(x));
        while (x.redo()) {
            text.append("; redone").append(numbers(x, LoopGround.NONE));
        }
        while (x.undo()) {
            text.append("; undone").append(numbers(x, LoopGround.NONE));
        }
        for (int box = 0; box <= 2; box++) {
            text.append("; box ").append(x.back(box)).append(numbers(x, LoopGround.NONE));
        }
        return text.append("; sketch ").append(x.sketch()).append(row(x)).toString();
    }

    private static String numbers(LoopGround x, int line) {
        StringBuilder text = new StringBuilder();
        for (int edge = 0; edge < x.about(1); edge++) {
            text.append(' ').append(x.number(line, edge));
        }
        return text.toString();
    }

    private static String row(LoopGround x) {
        StringBuilder text = new StringBuilder();
        for (int edge = 0; edge < x.about(1); edge++) {
            text.append(' ').append(x.lies(edge));
        }
        return text.toString();
    }

    /** Two objects go the same way, one is asked for the call too: it answers so, and then both are alike. */
    static void leaves(String call, Consumer<LoopGround> way, ToLongFunction<LoopGround> asked, long answer) {
        LoopGround one = new LoopGround();
        LoopGround other = new LoopGround();
        way.accept(one);
        way.accept(other);
        Check.due(call, asked.applyAsLong(one), answer);
        String is = all(one);
        String was = all(other);
        if (!is.equals(was)) {
            System.out.println("behind " + call + ": " + is + "\n  without it: " + was);
        }
        Check.due("all is as it was behind " + call, is.equals(was), true);
    }
}
