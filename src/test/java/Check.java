/** What the tests share: answers that are compared, and texts that are fed. */
final class Check {
    /** One handle, one point: a, b and c cross one another once each. */
    static final String TORUS = "piece 0 1 2;piece 0 1 2;";
    static final String TORUS_LINES = TORUS + "line a of 0 1 1;line b of 1 0 1;line c of 1 1 0;";
    /** No handle, four points; EDGES 0 and 5 have both SIDES in one PIECE. */
    static final String FOUR_POINTS = "piece 0 0 1;piece 1 2 3;piece 3 2 4;piece 4 5 5;";
    /** Two handles, one point: the sides 0 1 0 1 2 3 2 3 of an eight-sided piece, cut up by 4 .. 8. */
    static final String TWO_HANDLES =
        "piece 0 1 4;piece 4 0 5;piece 5 1 6;piece 6 2 7;piece 7 3 8;piece 8 2 3;";

    /** As much as can be told: 12 PIECES, 8 LINES in a chain (h, that is STUCK, beside it), 6 WORDS, 8 TWISTS in two. */
    static final String FULL = ladder(12) + line18("a", 0, 1) + line18("b", 1, 2, 3, 4) + line18("c", 4, 5, 6, 7)
        + line18("d", 7, 8, 9, 10) + line18("e", 10, 11, 12, 13) + line18("f", 13, 14, 15, 16) + line18("g", 16, 17)
        + line18("h", 0, 2, 3, 4) + "word p is a 1 b 1;word q is f 1 g 1;word r is g 1 f 1 g 1;"
        + "word s is a 1 b 1 c 1 d 1 e 1 f 1 g 1 g 1;word t is a 9 c -9 e 9 g -9 a -9 c 9 e -9 g 9;word u is g -9;";

    private static int answers;
    private static int wrong;

    private Check() {
    }

    static void due(String call, long got, long want) {
        answers++;
        if (got != want) {
            wrong++;
            System.out.println(call + " answered " + got + ", due is " + want);
        }
    }

    static void due(String call, boolean got, boolean want) {
        due(call, got ? 1 : 0, want ? 1 : 0);
    }

    /** Ends a test: exit code 1 if an answer was wrong, or none was looked at. */
    static void finish(Class<?> test) {
        System.out.println(test.getSimpleName() + ": " + answers + " answers, " + wrong + " not as due");
        if (wrong != 0 || answers == 0) {
            System.exit(1);
        }
    }

    /** Puts a text behind what is on the tape; false if it does not go on it. */
    static boolean feed(LoopGround x, String text) {
        int before = x.about(8);
        int[] n = new int[5];
        for (int from = 0; from < text.length(); from += 20) {
            java.util.Arrays.fill(n, 0);
            for (int i = 0; i < 20; i++) {
                int c = from + i < text.length() ? text.charAt(from + i) & 255 : 0;
                n[i / 4] |= c << (24 - 8 * (i % 4));
            }
            if (x.feed(n[0], n[1], n[2], n[3], n[4]) == LoopGround.NONE) {
                x.end(before);
                return false;
            }
        }
        return x.end(before + text.length()) == before + text.length();
    }

    /** PIECES in pairs, each pair glued to the next: an even number of them, with a SHORT LINE over EDGES 0 and 1. */
    static String ladder(int pieces) {
        StringBuilder text = new StringBuilder();
        int up = 2;
        int down = 3;
        int next = 4;
        for (int k = 0; k < pieces; k += 2) {
            boolean first = k == 0;
            boolean last = k + 2 >= pieces;
            String shared = first ? "0 1" : up + " " + next;
            String other = first ? "0 1" : down + " " + next;
            int outUp = first ? 2 : next + 1;
            int outDown = last ? outUp : outUp + 1;
            text.append("piece ").append(shared).append(' ').append(outUp).append(';');
            text.append("piece ").append(other).append(' ').append(outDown).append(';');
            up = outUp;
            down = outDown;
            next = outDown + 1;
        }
        return text.toString();
    }

    /** A LINE on 18 EDGES that crosses those given once each. */
    private static String line18(String name, int... crossed) {
        StringBuilder text = new StringBuilder("line ").append(name).append(" of");
        for (int edge = 0; edge < 18; edge++) {
            int at = edge;
            text.append(' ').append(java.util.Arrays.stream(crossed).filter(c -> c == at).count());
        }
        return text.append(';').toString();
    }

    /** A text that has its first FAULT at the place of the sign ^, which is no part of it. */
    static void fault(int kind, String marked) {
        int place = marked.indexOf('^');
        fault(kind, place, marked.substring(0, place) + marked.substring(place + 1));
    }

    static void fault(int kind, int place, String text) {
        LoopGround x = new LoopGround();
        feed(x, text);
        due("ground() of " + text, x.ground(), LoopGround.NONE);
        due("fault(0) of " + text, x.fault(0), kind);
        due("fault(1) of " + text, x.fault(1), place);
        due("about(8) behind " + text, x.about(8), 0);
    }

    /** A text that is right. */
    static void right(int lines, String text) {
        LoopGround x = new LoopGround();
        feed(x, text);
        due("ground() of " + text, x.ground(), lines);
        due("fault(0) of " + text, x.fault(0), 0);
        due("fault(1) of " + text, x.fault(1), LoopGround.NONE);
        due("about(4) of " + text, x.about(4), lines);
        due("about(8) behind " + text, x.about(8), 0);
    }

    static LoopGround on(String text) {
        LoopGround x = new LoopGround();
        if (!feed(x, text) || x.ground() == LoopGround.NONE) {
            due("ground() of " + text + ": fault " + x.fault(0) + " at " + x.fault(1), false, true);
        }
        return x;
    }

    static int sketch(LoopGround x, String text) {
        feed(x, text);
        return x.sketch();
    }

    static void numbers(LoopGround x, int line, long... want) {
        for (int edge = 0; edge < want.length; edge++) {
            due("number(" + line + ", " + edge + ")", x.number(line, edge), want[edge]);
        }
    }
}
