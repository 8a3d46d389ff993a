import java.util.Random;

/** Runs of calls made up by a seed, answered by the class and by the model of the document. */
public final class ModelTest {
    private static final int RUNS = 160;
    private static final int CALLS = 150;

    private final Random random;
    private final LoopGround x = new LoopGround();
    private final Model y = new Model();
    private final String run;
    private int pieces;
    private int leasts;

    private ModelTest(int seed) {
        random = new Random(seed);
        run = "run " + seed + ": ";
    }

    public static void main(String[] args) {
        int from = args.length > 0 ? Integer.parseInt(args[0]) : 0;
        int to = args.length > 1 ? Integer.parseInt(args[1]) : RUNS;
        for (int seed = from; seed < to; seed++) {
            new ModelTest(seed).play();
        }
        Check.finish(ModelTest.class);
    }

    private void play() {
        pieces = 2 + 2 * random.nextInt(random.nextInt(3) == 0 ? 6 : 3);
        tellGround(Grounds.text(random, pieces));
        for (int k = 0; k < CALLS; k++) {
            call();
        }
    }

    private void feed(String text) {
        int before = x.about(8);
        for (int from = 0; from < text.length(); from += 20) {
            int[] n = new int[5];
            for (int i = 0; i < 20 && from + i < text.length(); i++) {
                n[i / 4] |= (text.charAt(from + i) & 255) << (24 - 8 * (i % 4));
            }
            Check.due(run + "feed", x.feed(n[0], n[1], n[2], n[3], n[4]), y.feed(n));
        }
        int all = before + text.length();
        Check.due(run + "end(" + all + ")", x.end(all), y.end(all));
    }

    private void tellGround(String text) {
        feed(text);
        Check.due(run + "ground() " + text, x.ground(), y.ground());
        Check.due(run + "fault(0) " + text, x.fault(0), y.fault(0));
        Check.due(run + "fault(1) " + text, x.fault(1), y.fault(1));
    }

    private int line() {
        return random.nextInt(10) == 0 ? random.nextInt(12) - 2 : random.nextInt(Math.max(1, x.about(4)));
    }

    private int lineOrTheLine() {
        return random.nextInt(4) == 0 ? LoopGround.NONE : line();
    }

    private int word() {
        return random.nextInt(20) == 0 ? random.nextInt(9) - 1 : random.nextInt(Math.max(1, x.about(5)));
    }

    private int edge() {
        return random.nextInt(3 * pieces / 2 + 2) - 1;
    }

    private void call() {
        switch (random.nextInt(8)) {
            case 0 -> callOfLines();
            case 1 -> callOfLoops();
            case 2 -> callOfWords();
            case 3 -> callOfTables();
            case 4 -> callOfSketches();
            case 5 -> callOfGrounds();
            default -> callInEarnest();
        }
    }

    private void callOfLines() {
        int line = lineOrTheLine();
        int with = line();
        int i = random.nextInt(12) - 1;
        String of = run + "(" + line + ", " + with + ", " + i + ") ";
        Check.due(of + "flips", x.flips(line), y.flips(line));
        Check.due(of + "flip", x.flip(line, i), y.flip(line, i));
        Check.due(of + "cross", x.cross(line, with), y.cross(line, with));
        Check.due(of + "across", x.across(line, with), y.across(line, with));
    }

    private void callOfLoops() {
        int line = lineOrTheLine();
        int edge = edge();
        int what = random.nextInt(5) - 1;
        int i = random.nextInt(40) - 1;
        String of = run + "(" + line + ", " + edge + ", " + what + ", " + i + ") ";
        Check.due(of + "number", x.number(line, edge), y.number(line, edge));
        Check.due(of + "loops", x.loops(line, what), y.loops(line, what));
        Check.due(of + "traced", x.traced(line, i), y.traced(line, i));
        int piece = random.nextInt(pieces + 2) - 1;
        Check.due(of + "point", x.point(piece, what), y.point(piece, what));
    }

    private void callOfWords() {
        int a = word();
        int b = word();
        String of = run + "(" + a + ", " + b + ") ";
        Check.due(of + "kept", x.kept(a), y.kept(a));
        Check.due(of + "alike", x.alike(a, b), y.alike(a, b));
        Check.due(of + "order", x.order(a), y.order(a));
        int m = random.nextInt(5);
        leasts++;
        if (leasts < 8) {
            Check.due(of + "least " + m, x.least(a, m), y.least(a, m));
            lies();
        }
    }

    private void lies() {
        for (int edge = -1; edge <= 3 * pieces / 2; edge++) {
            Check.due(run + "lies " + edge, x.lies(edge), y.lies(edge));
        }
    }

    private void callOfTables() {
        int word = word();
        int line = line();
        int n = random.nextInt(random.nextBoolean() ? 3 : 23) - 1;
        int i = edge();
        int j = edge();
        String of = run + "(" + word + ", " + line + ", " + n + ", " + i + ", " + j + ") ";
        Check.due(of + "stretch", x.stretch(word, line, n), y.stretch(word, line, n));
        Check.due(of + "table", x.table(word, line, i, j), y.table(word, line, i, j));
        Check.due(of + "polynomial", x.polynomial(word, line, j + 1), y.polynomial(word, line, j + 1));
        if (random.nextInt(20) == 0) {
            for (i = -1; i <= 3 * pieces / 2 + 1; i++) {
                Check.due(of + "polynomial", x.polynomial(word, line, i), y.polynomial(word, line, i));
            }
        }
    }

    private void callOfSketches() {
        int line = lineOrTheLine();
        String text;
        if (random.nextInt(4) == 0) {
            text = wander();
        } else {
            text = lineAsSketch(line, random.nextBoolean());
        }
        feed(text);
        Check.due(run + "sketch " + text, x.sketch(), y.sketch());
        lies();
    }

    private String wander() {
        StringBuilder text = new StringBuilder().append((char) ('0' + random.nextInt(pieces + 1)));
        for (int k = random.nextInt(9); k > 0; k--) {
            text.append((char) ('a' + random.nextInt(3 * pieces / 2)));
        }
        return text.toString();
    }

    /** What a line crosses, with detours; a wrong first piece now and then. */
    private String lineAsSketch(int line, boolean backward) {
        StringBuilder text = new StringBuilder();
        for (int i = 0; i < 300 && x.traced(line, i) >= 0; i++) {
            text.append((char) ('a' + x.traced(line, i)));
        }
        if (backward) {
            text.reverse();
        }
        if (text.length() > 0) {
            int turn = random.nextInt(text.length());
            text.append(text.substring(0, turn)).delete(0, turn);
            for (int k = random.nextInt(4); k > 0; k--) {
                int at = random.nextInt(text.length() + 1);
                char c = (char) ('a' + random.nextInt(3 * pieces / 2));
                text.insert(at, "" + c + c);
            }
        }
        return (char) ('0' + random.nextInt(pieces)) + text.toString();
    }

    private void callOfGrounds() {
        for (int what = -1; what <= 9; what++) {
            Check.due(run + "about " + what, x.about(what), y.about(what));
        }
        int kind = random.nextInt(12);
        if (kind == 0) {
            pieces = 2 + 2 * random.nextInt(4);
            tellGround(Grounds.text(random, pieces));
        } else if (kind < 5) {
            LoopGround trial = new LoopGround();
            String text = spoil(Grounds.text(random, pieces));
            Check.feed(trial, text);
            // What is still right would put another ground under the run's feet: it's told only if it is a fault.
            if (trial.ground() == LoopGround.NONE) {
                tellGround(text);
            }
        }
    }

    private String spoil(String right) {
        String[] bits = {"piece ", "line ", "word ", "of ", "is ", "a", " ", "\n", ";", "-", "0", "1", "17", "18", "99",
            "100", "12345", "abcdefgh", "abcdefghi", "$", "\t", "\u00ff", "A", "la 1", "lz 2", "- 3", "-0", "10"};
        StringBuilder text = new StringBuilder(right);
        for (int k = 1 + random.nextInt(2); k > 0; k--) {
            int at = random.nextInt(text.length() + 1);
            int length = Math.min(random.nextInt(random.nextBoolean() ? 3 : 14), text.length() - at);
            text.replace(at, at + length, random.nextInt(4) == 0 ? "" : bits[random.nextInt(bits.length)]);
        }
        if (random.nextInt(6) == 0) {
            text.setLength(random.nextInt(text.length() + 1));
        }
        if (text.length() > 1580) {
            text.setLength(1580);
        }
        return text.toString();
    }

    /** Twists till numbers are spent, and looks at what is near that. */
    private void grow() {
        for (int k = 0; k < 14; k++) {
            int line = line();
            int times = 80 + random.nextInt(20);
            Check.due(run + "twist", x.twist(line, times), y.twist(line, times));
            Check.due(run + "cross", x.cross(-1, line), y.cross(-1, line));
        }
    }

    private void callInEarnest() {
        int line = line();
        if (random.nextInt(25) == 0) {
            grow();
        }
        int times = random.nextInt(random.nextInt(10) == 0 ? 203 : 7) - (random.nextInt(10) == 0 ? 101 : 3);
        String of = run + "(" + line + ", " + times + ") ";
        switch (random.nextInt(9)) {
            case 0 -> Check.due(of + "lay", x.lay(line), y.lay(line));
            case 1, 2, 3 -> Check.due(of + "twist", x.twist(line, times), y.twist(line, times));
            case 4 -> Check.due(of + "go", x.go(line / 2), y.go(line / 2));
            case 5 -> Check.due(of + "undo", x.undo(), y.undo());
            case 6 -> Check.due(of + "redo", x.redo(), y.redo());
            case 7 -> Check.due(of + "image", x.image(line - 1), y.image(line - 1));
            default -> Check.due(of + "back", x.back(line - 1), y.back(line - 1));
        }
        for (int edge = 0; edge < 3 * pieces / 2; edge++) {
            Check.due(of + "number(-1, " + edge + ")", x.number(-1, edge), y.number(-1, edge));
        }
    }
}
