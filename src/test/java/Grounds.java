import java.util.ArrayList;
import java.util.Collections;
import java.util.List;
import java.util.Random;

/** Grounds made up by a seed: texts of pieces glued at random, with lines and words on them. */
final class Grounds {
    private Grounds() {
    }

    /** Pieces that are whole, as rows of three edges. */
    static int[][] pieces(Random random, int count) {
        while (true) {
            List<Integer> sides = new ArrayList<>();
            for (int e = 0; e < 3 * count / 2; e++) {
                sides.add(e);
                sides.add(e);
            }
            Collections.shuffle(sides, random);
            int[][] pieces = new int[count][3];
            for (int i = 0; i < 3 * count; i++) {
                pieces[i / 3][i % 3] = sides.get(i);
            }
            LoopGround x = new LoopGround();
            Check.feed(x, piecesText(pieces));
            if (x.ground() == 0) {
                return pieces;
            }
        }
    }

    static String piecesText(int[][] pieces) {
        StringBuilder text = new StringBuilder();
        for (int[] p : pieces) {
            text.append("piece ").append(p[0]).append(' ').append(p[1]).append(' ').append(p[2]).append(';');
        }
        return text.toString();
    }

    /** A loop that is in no piece twice: how often it crosses each edge; all 0 if none was found. */
    static int[] simpleLoop(Random random, int[][] pieces) {
        for (int tries = 0; tries < 500; tries++) {
            int[] numbers = new int[3 * pieces.length / 2];
            boolean[] been = new boolean[pieces.length];
            int first = random.nextInt(pieces.length);
            int at = first;
            int came = -1;
            for (int k = 0; k <= pieces.length; k++) {
                been[at] = true;
                int slot = 3 * at + random.nextInt(3);
                int to = otherSide(pieces, slot);
                if (slot == came || to / 3 == at || been[to / 3] && to / 3 != first) {
                    break;
                }
                numbers[pieces[at][slot % 3]]++;
                came = to;
                at = to / 3;
                if (at == first) {
                    return numbers;
                }
            }
        }
        return new int[3 * pieces.length / 2];
    }

    static int otherSide(int[][] pieces, int slot) {
        for (int s = 0; s < 3 * pieces.length; s++) {
            if (s != slot && pieces[s / 3][s % 3] == pieces[slot / 3][slot % 3]) {
                return s;
            }
        }
        throw new IllegalStateException();
    }

    static String lineText(String name, int[] numbers) {
        StringBuilder text = new StringBuilder("line ").append(name).append(" of");
        for (int n : numbers) {
            text.append(' ').append(n);
        }
        return text.append(';').toString();
    }

    /** Pieces on which simple loops cross one another, so that twists along them do something. */
    static int[][] livelyPieces(Random random, int count) {
        while (true) {
            int[][] pieces = pieces(random, count);
            LoopGround x = Check.on(piecesText(pieces) + lineText("a", simpleLoop(random, pieces))
                + lineText("b", simpleLoop(random, pieces)));
            if (x.cross(0, 1) > 0) {
                return pieces;
            }
        }
    }

    /** Lines: simple loops, images of them by twists, rings and several loops at once. */
    static List<int[]> lines(Random random, int[][] pieces, int count) {
        List<int[]> lines = new ArrayList<>();
        StringBuilder text = new StringBuilder(piecesText(pieces));
        for (int i = 0; i < 4; i++) {
            int[] loop = simpleLoop(random, pieces);
            lines.add(loop);
            text.append(lineText("" + (char) ('a' + i), loop));
        }
        LoopGround x = Check.on(text.toString());
        while (lines.size() < count) {
            x.lay(random.nextInt(4));
            for (int k = random.nextInt(5); k > 0; k--) {
                x.twist(random.nextInt(4), random.nextInt(7) - 3);
            }
            int[] line = new int[3 * pieces.length / 2];
            long most = 0;
            for (int e = 0; e < line.length; e++) {
                line[e] = (int) Math.min(1000, x.number(-1, e));
                if (lines.size() == 6) {
                    line[e] = 2 * line[e] + lines.get(random.nextInt(2))[e] / 2 * 2;
                }
                most = Math.max(most, line[e]);
            }
            if (most <= 99) {
                lines.add(line);
            }
        }
        Collections.shuffle(lines, random);
        return lines;
    }

    /** A whole text; now and then a line in it does not fit. */
    static String text(Random random, int pieceCount) {
        int[][] pieces = random.nextInt(5) == 0 ? pieces(random, pieceCount) : livelyPieces(random, pieceCount);
        StringBuilder text = new StringBuilder(piecesText(pieces));
        int count = 2 + random.nextInt(7);
        List<int[]> lines = lines(random, pieces, 8);
        if (random.nextInt(6) == 0) {
            lines.set(random.nextInt(8), new int[3 * pieceCount / 2]);
        }
        for (int i = 0; i < count; i++) {
            text.append(lineText("l" + (char) ('a' + i), lines.get(i)));
        }
        int words = 1 + random.nextInt(6);
        for (int i = 0; i < words; i++) {
            text.append("word w").append((char) ('a' + i)).append(" is");
            int length = 1 + random.nextInt(random.nextInt(4) == 0 ? 8 : 3);
            for (int k = 0; k < length; k++) {
                int times = random.nextInt(random.nextBoolean() ? 9 : 2) + 1;
                text.append(" l").append((char) ('a' + random.nextInt(count))).append(' ');
                text.append(random.nextBoolean() ? times : -times);
            }
            text.append(';');
        }
        return text.toString();
    }
}
