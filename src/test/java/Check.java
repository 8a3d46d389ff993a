/** What the tests share: answers that are compared, and texts that are fed. */
final class Check {
    /** One handle, one point: a, b and c cross one another once each. */
    static final String TORUS = "piece 0 1 2;piece 0 1 2;";
    static final String TORUS_LINES = TORUS + "line a of 0 1 1;line b of 1 0 1;line c of 1 1 0;";
    /** No handle, four points; EDGES 0 and 5 have both SIDES in one PIECE. */
    static final String FOUR_POINTS = "piece 0 0 1;piece 1 2 3;piece 3 2 4;piece 4 5 5;";
    /** Two handles, one point: the sides 0 1 0 1 2 3 2 3 of an eight-sided piece, cut up by 4 .. 8. */
    static final String TWO_HANDLES =
        "piece 0 1 4;piece 4 0 5;piece 5 1 6;piece 6 2 7;piece 7 3 8;piece 8 2 3;";

    private static int answers;
    private static int wrong;

    private Check() {
    }

    static void due(String call, long got, long want) {
        answers++;
        if (got != want) {
            wrong++;
            System.out.println(call + " answered " + got + ", due is " + want);
        }
    }

    static void due(String call, boolean got, boolean want) {
        due(call, got ? 1 : 0, want ? 1 : 0);
    }

    /** Ends a test: exit code 1 if an answer was wrong, or none was looked at. */
    static void finish(Class<?> test) {
        System.out.println(test.getSimpleName() + ": " + answers + " answers, " + wrong + " not as due");
        if (wrong != 0 || answers == 0) {
            System.exit(1);
        }
    }

    /** Puts a text behind what is on the tape; false if it does not go on it. */
    static boolean feed(LoopGround x, String text) {
        int before = x.about(8);
        int[] n = new int[5];
        for (int from = 0; from < text.length(); from += 20) {
            java.util.Arrays.fill(n, 0);
            for (int i = 0; i < 20; i++) {
                int c = from + i < text.length() ? text.charAt(from + i) & 255 : 0;
                n[i / 4] |= c << (24 - 8 * (i % 4));
            }
            if (x.feed(n[0], n[1], n[2], n[3], n[4]) == LoopGround.NONE) {
                x.end(before);
                return false;
            }
        }
        return x.end(before + text.length()) == before + text.length();
    }

    static LoopGround on(String text) {
        LoopGround x = new LoopGround();
        if (!feed(x, text) || x.ground() == LoopGround.NONE) {
            due("ground() of " + text + ": fault " + x.fault(0) + " at " + x.fault(1), false, true);
        }
        return x;
    }

    static int sketch(LoopGround x, String text) {
        feed(x, text);
        return x.sketch();
    }

    static void numbers(LoopGround x, int line, long... want) {
        for (int edge = 0; edge < want.length; edge++) {
            due("number(" + line + ", " + edge + ")", x.number(line, edge), want[edge]);
        }
    }
}
