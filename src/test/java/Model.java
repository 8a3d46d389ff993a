import java.math.BigInteger;
import java.util.ArrayList;
import java.util.Arrays;
import java.util.HashMap;
import java.util.List;
import java.util.Map;
import java.util.regex.Matcher;
import java.util.regex.Pattern;

/**
 * The document over again, in other ways than the class goes: slow, with lists and big numbers, each TWIST by itself
 * with all its FLIPS, each row of numbers tried.
 */
final class Model {
    private static final int NONE = -1;
    private static final BigInteger LIMIT = BigInteger.TEN.pow(14);
    private static final long PRIME = 1000003;
    private static final List<String> RESERVED = List.of("piece", "line", "of", "word", "is");

    /** What was told. */
    private static final class Ground {
        final List<int[]> pieces = new ArrayList<>();
        final List<String> lineNames = new ArrayList<>();
        final List<BigInteger[]> lines = new ArrayList<>();
        final List<String> wordNames = new ArrayList<>();
        final List<int[][]> words = new ArrayList<>();
        int edges;
        int points;
        int[] pointAt = new int[0];
    }

    private static final class Fault extends RuntimeException {
        private static final long serialVersionUID = 1;
        final int kind;
        final int place;

        Fault(int kind, int place) {
            this.kind = kind;
            this.place = place;
        }
    }

    private static final class Token {
        final String text;
        final int place;

        Token(String text, int place) {
            this.text = text;
            this.place = place;
        }

        boolean isName() {
            return text.matches("[a-z]{1,8}") && !RESERVED.contains(text);
        }

        boolean isNumber() {
            return text.matches("[0-9]{1,4}");
        }
    }

    private StringBuilder tape = new StringBuilder();
    private Ground g = new Ground();
    private BigInteger[] theLine = new BigInteger[0];
    private final List<BigInteger[]> undoable = new ArrayList<>();
    private final List<BigInteger[]> redoable = new ArrayList<>();
    private final BigInteger[][] boxes = new BigInteger[3][];
    private long[] row;
    private int faultKind;
    private int faultPlace = NONE;

    static Model on(String text) {
        Model model = new Model();
        model.tape.append(text);
        if (model.ground() == NONE) {
            throw new IllegalArgumentException("fault " + model.faultKind + " at " + model.faultPlace + " of " + text);
        }
        return model;
    }

    // ---- the tape

    int feed(int... n) {
        if (tape.length() + 20 > 1600) {
            return NONE;
        }
        for (int four : n) {
            for (int i = 3; i >= 0; i--) {
                tape.append((char) (four >>> (8 * i) & 255));
            }
        }
        return tape.length();
    }

    int end(int n) {
        if (n < 0 || n > tape.length()) {
            return NONE;
        }
        tape.setLength(n);
        return n;
    }

    // ---- the ground

    int ground() {
        String text = tape.toString();
        tape = new StringBuilder();
        try {
            g = read(text);
        } catch (Fault fault) {
            faultKind = fault.kind;
            faultPlace = fault.place;
            return NONE;
        }
        faultKind = 0;
        faultPlace = NONE;
        theLine = zeros();
        undoable.clear();
        redoable.clear();
        Arrays.fill(boxes, null);
        row = null;
        return g.lines.size();
    }

    private BigInteger[] zeros() {
        BigInteger[] zeros = new BigInteger[g.edges];
        Arrays.fill(zeros, BigInteger.ZERO);
        return zeros;
    }

    private static List<Token> tokens(String text) {
        List<Token> list = new ArrayList<>();
        Matcher m = Pattern.compile("[ \\n]+|[a-z]+|[0-9]+[a-z]?|(?s:.)").matcher(text);
        while (m.find()) {
            if (!m.group().matches("[ \\n]+")) {
                list.add(new Token(m.group(), m.start()));
            }
        }
        list.add(new Token("", text.length()));
        return list;
    }

    private static Fault cannotStand(Token t) {
        boolean token = t.text.isEmpty() || t.text.matches("[a-z]{1,8}|[0-9]{1,4}|;|-");
        return new Fault(token ? 2 : 1, t.place);
    }

    private static Ground read(String text) {
        List<Token> list = tokens(text);
        Ground ground = new Ground();
        int i = 0;
        boolean closed = false;
        while (!list.get(i).text.isEmpty()) {
            Token t = list.get(i);
            if (t.text.equals("piece")) {
                if (closed || ground.pieces.size() == 12) {
                    throw new Fault(2, t.place);
                }
                i = readPiece(list, i + 1, ground);
                continue;
            }
            if (!t.text.equals("line") && !t.text.equals("word")) {
                throw cannotStand(t);
            }
            if (!closed) {
                close(ground, t.place);
                closed = true;
            }
            i = t.text.equals("line") ? readLine(list, i, ground) : readWord(list, i, ground);
        }
        if (!closed) {
            close(ground, text.length());
        }
        return ground;
    }

    private static int readPiece(List<Token> list, int from, Ground ground) {
        int[] piece = {NONE, NONE, NONE};
        for (int k = 0; k < 3; k++) {
            Token t = list.get(from + k);
            if (!t.isNumber()) {
                throw cannotStand(t);
            }
            int edge = Integer.parseInt(t.text);
            if (edge > 17) {
                throw new Fault(4, t.place);
            }
            int told = 0;
            for (int[] other : ground.pieces) {
                for (int e : other) {
                    told += e == edge ? 1 : 0;
                }
            }
            for (int e : piece) {
                told += e == edge ? 1 : 0;
            }
            if (told == 2) {
                throw new Fault(3, t.place);
            }
            piece[k] = edge;
        }
        expect(list.get(from + 3), ";");
        ground.pieces.add(piece);
        return from + 4;
    }

    private static void expect(Token t, String text) {
        if (!t.text.equals(text)) {
            throw cannotStand(t);
        }
    }

    private static int readLine(List<Token> list, int from, Ground ground) {
        if (ground.lines.size() == 8) {
            throw new Fault(2, list.get(from).place);
        }
        String name = newName(list.get(from + 1), ground.lineNames);
        expect(list.get(from + 2), "of");
        int i = from + 3;
        List<BigInteger> numbers = new ArrayList<>();
        while (list.get(i).isNumber()) {
            if (numbers.size() == ground.edges) {
                throw new Fault(2, list.get(i).place);
            }
            if (Integer.parseInt(list.get(i).text) > 99) {
                throw new Fault(4, list.get(i).place);
            }
            numbers.add(new BigInteger(list.get(i).text));
            i++;
        }
        if (numbers.isEmpty() || numbers.size() < ground.edges) {
            throw cannotStand(list.get(i));
        }
        expect(list.get(i), ";");
        BigInteger[] line = numbers.toArray(new BigInteger[0]);
        if (!fits(ground, line)) {
            throw new Fault(6, list.get(i).place);
        }
        ground.lineNames.add(name);
        ground.lines.add(line);
        return i + 1;
    }

    private static String newName(Token t, List<String> names) {
        if (!t.isName()) {
            throw cannotStand(t);
        }
        if (names.contains(t.text)) {
            throw new Fault(3, t.place);
        }
        return t.text;
    }

    private static int readWord(List<Token> list, int from, Ground ground) {
        if (ground.words.size() == 6) {
            throw new Fault(2, list.get(from).place);
        }
        String name = newName(list.get(from + 1), ground.wordNames);
        expect(list.get(from + 2), "is");
        int i = from + 3;
        List<int[]> twists = new ArrayList<>();
        do {
            Token t = list.get(i);
            if (!t.isName()) {
                throw cannotStand(t);
            }
            if (twists.size() == 8) {
                throw new Fault(2, t.place);
            }
            int line = ground.lineNames.indexOf(t.text);
            if (line < 0) {
                throw new Fault(5, t.place);
            }
            i++;
            int place = list.get(i).place;
            int sign = 1;
            if (list.get(i).text.equals("-")) {
                sign = -1;
                i++;
            }
            if (!list.get(i).isNumber()) {
                throw cannotStand(list.get(i));
            }
            int times = Integer.parseInt(list.get(i).text);
            if (times == 0 || times > 9) {
                throw new Fault(4, place);
            }
            twists.add(new int[] {line, sign * times});
            i++;
        } while (!list.get(i).text.equals(";"));
        ground.wordNames.add(name);
        ground.words.add(twists.toArray(new int[0][]));
        return i + 1;
    }

    private static void close(Ground ground, int place) {
        int pieces = ground.pieces.size();
        int[] told = new int[18];
        for (int[] piece : ground.pieces) {
            for (int e : piece) {
                told[e]++;
            }
        }
        boolean whole = pieces % 2 == 0;
        for (int e = 0; e < 18; e++) {
            whole = whole && told[e] == (2 * e < 3 * pieces ? 2 : 0);
        }
        if (!whole) {
            throw new Fault(6, place);
        }
        ground.edges = 3 * pieces / 2;
        int[] together = own(pieces);
        int[] corners = own(3 * pieces);
        for (int e = 0; e < ground.edges; e++) {
            int s = side(ground.pieces, e, 0);
            int t = side(ground.pieces, e, 1);
            join(together, s / 3, t / 3);
            join(corners, before(s), t);
            join(corners, s, before(t));
        }
        for (int p = 0; p < pieces; p++) {
            if (root(together, p) != root(together, 0)) {
                throw new Fault(6, place);
            }
        }
        ground.pointAt = new int[3 * pieces];
        Map<Integer, Integer> numbers = new HashMap<>();
        for (int c = 0; c < 3 * pieces; c++) {
            numbers.putIfAbsent(root(corners, c), numbers.size());
            ground.pointAt[c] = numbers.get(root(corners, c));
        }
        ground.points = numbers.size();
    }

    private static int[] own(int n) {
        int[] parents = new int[n];
        for (int i = 0; i < n; i++) {
            parents[i] = i;
        }
        return parents;
    }

    private static int root(int[] parents, int i) {
        return parents[i] == i ? i : root(parents, parents[i]);
    }

    private static void join(int[] parents, int i, int j) {
        parents[root(parents, i)] = root(parents, j);
    }

    private static int before(int slot) {
        return slot / 3 * 3 + (slot + 2) % 3;
    }

    private static int after(int slot) {
        return slot / 3 * 3 + (slot + 1) % 3;
    }

    private static int side(List<int[]> pieces, int edge, int which) {
        int seen = 0;
        for (int slot = 0; slot < 3 * pieces.size(); slot++) {
            if (pieces.get(slot / 3)[slot % 3] == edge && seen++ == which) {
                return slot;
            }
        }
        return NONE;
    }

    private int other(int slot) {
        int edge = edgeAt(slot);
        int first = side(g.pieces, edge, 0);
        return slot == first ? side(g.pieces, edge, 1) : first;
    }

    private int edgeAt(int slot) {
        return g.pieces.get(slot / 3)[slot % 3];
    }

    private static boolean fits(Ground ground, BigInteger[] n) {
        for (int[] p : ground.pieces) {
            BigInteger sum = n[p[0]].add(n[p[1]]).add(n[p[2]]);
            if (sum.testBit(0)) {
                return false;
            }
            for (int e : p) {
                if (n[e].compareTo(sum.subtract(n[e])) > 0) {
                    return false;
                }
            }
        }
        return true;
    }

    int fault(int what) {
        return what == 0 ? faultKind : what == 1 ? faultPlace : NONE;
    }

    int point(int piece, int corner) {
        boolean there = piece >= 0 && piece < g.pieces.size() && corner >= 0 && corner < 3;
        return there ? g.pointAt[3 * piece + corner] : NONE;
    }

    int about(int what) {
        int[] all = {g.pieces.size(), g.edges, g.points, (2 - g.points + g.edges - g.pieces.size()) / 2,
            g.lines.size(), g.words.size(), undoable.size(), redoable.size(), tape.length()};
        return what >= 0 && what < all.length ? all[what] : NONE;
    }

    // ---- lines

    private BigInteger[] line(int line) {
        if (line == NONE) {
            return theLine;
        }
        return line >= 0 && line < g.lines.size() ? g.lines.get(line) : null;
    }

    private static BigInteger sum(BigInteger[] n) {
        BigInteger sum = BigInteger.ZERO;
        for (BigInteger i : n) {
            sum = sum.add(i);
        }
        return sum;
    }

    private static boolean tooLong(BigInteger[] n) {
        return sum(n).compareTo(BigInteger.valueOf(18000)) > 0;
    }

    long number(int line, int edge) {
        BigInteger[] n = line(line);
        return n == null || edge < 0 || edge >= g.edges ? -2 : n[edge].longValueExact();
    }

    private int corner(BigInteger[] n, int slot) {
        return (n[edgeAt(slot)].intValue() + n[edgeAt(after(slot))].intValue()
            - n[edgeAt(before(slot))].intValue()) / 2;
    }

    /** Of each end of a strand in a PIECE (slot and place on it, from the corner ahead) the other end. */
    private Map<List<Integer>, List<Integer>> links(BigInteger[] n) {
        Map<List<Integer>, List<Integer>> links = new HashMap<>();
        for (int slot = 0; slot < 3 * g.pieces.size(); slot++) {
            for (int j = 0; j < corner(n, slot); j++) {
                List<Integer> one = List.of(slot, n[edgeAt(slot)].intValue() - 1 - j);
                List<Integer> two = List.of(after(slot), j);
                links.put(one, two);
                links.put(two, one);
            }
        }
        return links;
    }

    private List<Integer> over(BigInteger[] n, List<Integer> end) {
        int slot = end.get(0);
        return List.of(other(slot), n[edgeAt(slot)].intValue() - 1 - end.get(1));
    }

    /** The slots over which the LINE leaves, from one strand on. */
    private List<Integer> follow(BigInteger[] n, Map<List<Integer>, List<Integer>> links, List<Integer> from) {
        List<Integer> slots = new ArrayList<>();
        List<Integer> at = from;
        do {
            slots.add(at.get(0));
            at = links.get(over(n, at));
        } while (!at.equals(from));
        return slots;
    }

    private int loopCount(BigInteger[] n) {
        Map<List<Integer>, List<Integer>> links = links(n);
        Map<List<Integer>, Integer> numbers = new HashMap<>();
        for (List<Integer> end : links.keySet()) {
            numbers.put(end, numbers.size());
        }
        int[] parents = own(numbers.size());
        for (List<Integer> end : links.keySet()) {
            join(parents, numbers.get(end), numbers.get(links.get(end)));
            join(parents, numbers.get(end), numbers.get(over(n, end)));
        }
        int count = 0;
        for (int i = 0; i < parents.length; i++) {
            count += parents[i] == i ? 1 : 0;
        }
        return count;
    }

    /** Round a POINT go as many RINGS as go round each of its corners at least. */
    private int ringCount(BigInteger[] n) {
        int count = 0;
        for (int p = 0; p < g.points; p++) {
            int fewest = Integer.MAX_VALUE;
            for (int c = 0; c < g.pointAt.length; c++) {
                fewest = g.pointAt[c] == p ? Math.min(fewest, corner(n, c)) : fewest;
            }
            count += fewest;
        }
        return count;
    }

    private boolean single(BigInteger[] n) {
        return loopCount(n) == 1 && ringCount(n) == 0;
    }

    int loops(int line, int what) {
        BigInteger[] n = line(line);
        if (n == null || what < 0 || what > 2) {
            return NONE;
        }
        if (tooLong(n)) {
            return -2;
        }
        return what == 0 ? loopCount(n) : what == 1 ? ringCount(n) : single(n) ? 1 : 0;
    }

    private List<Integer> trace(BigInteger[] n) {
        for (int e = 0; e < g.edges; e++) {
            if (n[e].signum() > 0) {
                return follow(n, links(n), List.of(side(g.pieces, e, 0), 0));
            }
        }
        return List.of();
    }

    int traced(int line, int i) {
        BigInteger[] n = line(line);
        if (n == null || i < 0) {
            return NONE;
        }
        if (tooLong(n)) {
            return -2;
        }
        List<Integer> slots = trace(n);
        return i < slots.size() ? edgeAt(slots.get(i)) : NONE;
    }

    int across(int a, int b) {
        if (a < 0 || b < 0 || line(a) == null || line(b) == null || !single(line(a)) || !single(line(b))) {
            return Integer.parseInt("-1000000");
        }
        int[] p = flow(trace(line(a)));
        int[] q = flow(trace(line(b)));
        int sum = 0;
        for (int i = 0; i < g.pieces.size(); i++) {
            sum += p[3 * i] * q[3 * i + 1] - p[3 * i + 1] * q[3 * i];
        }
        if (sum % 2 != 0) {
            throw new IllegalStateException("turns are odd");
        }
        return sum / 2;
    }

    private int[] flow(List<Integer> slots) {
        int[] flow = new int[3 * g.pieces.size()];
        for (int slot : slots) {
            flow[slot]++;
            flow[other(slot)]--;
        }
        return flow;
    }

    // ---- flips and twists

    /** A line made short: the flips as e x y z w, the pieces and numbers at last. */
    private static final class Short {
        final List<int[]> flips = new ArrayList<>();
        boolean stuck;
        int a = NONE;
        int b = NONE;
        int e;
        int f;
    }

    private static int[] from(int[] piece, int edge) {
        for (int i = 0; i < 3; i++) {
            if (piece[i] == edge) {
                return new int[] {edge, piece[(i + 1) % 3], piece[(i + 2) % 3]};
            }
        }
        return null;
    }

    private Short shorten(int line) {
        List<int[]> pieces = new ArrayList<>(g.pieces);
        BigInteger[] n = line(line).clone();
        Short s = new Short();
        while (true) {
            int[] sorted = Arrays.stream(n).mapToInt(BigInteger::intValue).filter(i -> i != 0).toArray();
            if (Arrays.equals(sorted, new int[] {1, 1})) {
                break;
            }
            boolean found = false;
            for (int edge = 0; edge < g.edges && !found; edge++) {
                int p = side(pieces, edge, 0) / 3;
                int q = side(pieces, edge, 1) / 3;
                if (p == q) {
                    continue;
                }
                int[] one = from(pieces.get(p), edge);
                int[] two = from(pieces.get(q), edge);
                int[] flip = {edge, one[1], one[2], two[1], two[2]};
                BigInteger[] after = n.clone();
                passFlip(after, flip);
                if (sum(after).compareTo(sum(n)) < 0) {
                    found = true;
                    n = after;
                    s.flips.add(flip);
                    pieces.set(p, new int[] {edge, flip[2], flip[3]});
                    pieces.set(q, new int[] {edge, flip[4], flip[1]});
                }
            }
            if (!found) {
                s.stuck = true;
                return s;
            }
        }
        for (int[] piece : pieces) {
            for (int edge : piece) {
                int[] turned = from(piece, edge);
                if (n[edge].signum() == 0 && n[turned[1]].signum() > 0 && n[turned[2]].signum() > 0) {
                    if (s.a != NONE && (s.f != turned[1] || s.e != turned[2])) {
                        throw new IllegalStateException("the two pieces do not agree");
                    }
                    s.f = turned[1];
                    s.e = turned[2];
                    s.b = s.a;
                    s.a = edge;
                }
            }
        }
        return s;
    }

    private static boolean passFlip(BigInteger[] n, int[] flip) {
        BigInteger xz = n[flip[1]].add(n[flip[3]]);
        BigInteger yw = n[flip[2]].add(n[flip[4]]);
        n[flip[0]] = xz.max(yw).subtract(n[flip[0]]);
        return n[flip[0]].compareTo(LIMIT) <= 0;
    }

    private boolean fair(int line) {
        return line >= 0 && line < g.lines.size() && single(line(line)) && !shorten(line).stuck;
    }

    private boolean fairWord(int word) {
        if (word < 0 || word >= g.words.size()) {
            return false;
        }
        for (int[] twist : g.words.get(word)) {
            if (!fair(twist[0])) {
                return false;
            }
        }
        return true;
    }

    int flips(int line) {
        if (line < 0 || line(line) == null || !single(line(line))) {
            return NONE;
        }
        Short s = shorten(line);
        return s.stuck ? -2 : s.flips.size();
    }

    int flip(int line, int i) {
        int count = flips(line);
        return i >= 0 && i < count ? shorten(line).flips.get(i)[0] : NONE;
    }

    long cross(int line, int with) {
        if (line(line) == null || !fair(with)) {
            return NONE;
        }
        BigInteger[] n = line(line).clone();
        Short s = shorten(with);
        for (int[] flip : s.flips) {
            if (!passFlip(n, flip)) {
                return -2;
            }
        }
        BigInteger other = n[s.a].add(n[s.b]).subtract(n[s.e]).subtract(n[s.f]);
        return n[s.f].subtract(n[s.e]).abs().max(other).longValueExact();
    }

    private static void combine(BigInteger[][] table, int edge, int p, int q) {
        for (int j = 0; table != null && j < table.length; j++) {
            table[edge][j] = table[p][j].add(table[q][j]).subtract(table[edge][j]);
        }
    }

    private static boolean passFlip(BigInteger[] n, int[] flip, BigInteger[][] table) {
        boolean xz = n[flip[1]].add(n[flip[3]]).compareTo(n[flip[2]].add(n[flip[4]])) >= 0;
        combine(table, flip[0], xz ? flip[1] : flip[2], xz ? flip[3] : flip[4]);
        return passFlip(n, flip);
    }

    /** The numbers behind one twist, with all its flips; null if spent. */
    private BigInteger[] twistOnce(BigInteger[] numbers, Short s, int sign, BigInteger[][] table) {
        BigInteger[] n = numbers.clone();
        for (int[] flip : s.flips) {
            if (!passFlip(n, flip, table)) {
                return null;
            }
        }
        int e = sign > 0 ? s.e : s.f;
        int f = sign > 0 ? s.f : s.e;
        BigInteger ab = n[s.a].add(n[s.b]);
        BigInteger ff = n[f].add(n[f]);
        BigInteger now = ab.max(ff).subtract(n[e]);
        n[e] = n[f];
        n[f] = now;
        if (table != null) {
            combine(table, e, ab.compareTo(ff) >= 0 ? s.a : f, ab.compareTo(ff) >= 0 ? s.b : f);
            BigInteger[] held = table[e];
            table[e] = table[f];
            table[f] = held;
        }
        if (now.compareTo(LIMIT) > 0) {
            return null;
        }
        for (int i = s.flips.size() - 1; i >= 0; i--) {
            if (!passFlip(n, s.flips.get(i), table)) {
                return null;
            }
        }
        return n;
    }

    private BigInteger[] twisted(BigInteger[] numbers, int line, int times, BigInteger[][] table) {
        BigInteger[] n = numbers;
        Short s = shorten(line);
        for (int i = 0; i < Math.abs(times) && n != null; i++) {
            n = twistOnce(n, s, times, table);
        }
        return n;
    }

    private BigInteger[] through(BigInteger[] numbers, int word, BigInteger[][] table) {
        BigInteger[] n = numbers;
        for (int[] twist : g.words.get(word)) {
            n = n == null ? null : twisted(n, twist[0], twist[1], table);
        }
        return n;
    }

    // ---- words

    int kept(int word) {
        if (!fairWord(word)) {
            return NONE;
        }
        int bits = 0;
        for (int i = 0; i < g.lines.size(); i++) {
            bits += Arrays.equals(line(i), through(line(i), word, null)) ? 1 << i : 0;
        }
        return bits;
    }

    int alike(int a, int b) {
        if (!fairWord(a) || !fairWord(b)) {
            return NONE;
        }
        for (BigInteger[] n : g.lines) {
            if (!Arrays.equals(through(n, a, null), through(n, b, null))) {
                return 0;
            }
        }
        return 1;
    }

    int order(int word) {
        if (!fairWord(word)) {
            return NONE;
        }
        List<BigInteger[]> images = new ArrayList<>(g.lines);
        for (int times = 1; times <= 40; times++) {
            boolean same = true;
            for (int i = 0; i < images.size(); i++) {
                images.set(i, images.get(i) == null ? null : through(images.get(i), word, null));
                same = same && Arrays.equals(images.get(i), line(i));
            }
            if (same) {
                return times;
            }
        }
        return 0;
    }

    private boolean stretches(int word, int line) {
        return fairWord(word) && line >= 0 && line(line) != null && sum(line(line)).signum() > 0;
    }

    long stretch(int word, int line, int n) {
        if (!stretches(word, line) || n < 0 || n > 20) {
            return NONE;
        }
        BigInteger[] before = line(line);
        BigInteger[] behind = through(before, word, null);
        for (int i = 0; i < n && behind != null; i++) {
            before = behind;
            behind = through(before, word, null);
        }
        if (behind == null) {
            return -2;
        }
        return sum(behind).multiply(BigInteger.valueOf(1000)).divide(sum(before)).longValueExact();
    }

    private long[][] tableOf(int word, int line) {
        BigInteger[][] table = new BigInteger[g.edges][g.edges];
        for (int i = 0; i < g.edges; i++) {
            for (int j = 0; j < g.edges; j++) {
                table[i][j] = i == j ? BigInteger.ONE : BigInteger.ZERO;
            }
        }
        if (through(line(line), word, table) == null) {
            return null;
        }
        long[][] rest = new long[g.edges][g.edges];
        for (int i = 0; i < g.edges; i++) {
            for (int j = 0; j < g.edges; j++) {
                rest[i][j] = table[i][j].mod(BigInteger.valueOf(PRIME)).longValue();
            }
        }
        return rest;
    }

    int table(int word, int line, int row, int column) {
        if (!stretches(word, line) || row < 0 || row >= g.edges || column < 0 || column >= g.edges) {
            return NONE;
        }
        long[][] table = tableOf(word, line);
        return table == null ? -2 : (int) table[row][column];
    }

    private static long power(long base, long exponent) {
        return BigInteger.valueOf(base).modPow(BigInteger.valueOf(exponent), BigInteger.valueOf(PRIME)).longValue();
    }

    private static long determinant(long[][] m) {
        int n = m.length;
        long det = 1;
        for (int c = 0; c < n; c++) {
            int p = c;
            while (p < n && m[p][c] == 0) {
                p++;
            }
            if (p == n) {
                return 0;
            }
            long[] held = m[p];
            m[p] = m[c];
            m[c] = held;
            det = (p == c ? det : PRIME - det) * m[c][c] % PRIME;
            long inverse = power(m[c][c], PRIME - 2);
            for (int r = c + 1; r < n; r++) {
                long times = m[r][c] * inverse % PRIME;
                for (int j = c; j < n; j++) {
                    m[r][j] = Math.floorMod(m[r][j] - times * m[c][j], PRIME);
                }
            }
        }
        return det % PRIME;
    }

    /** By the determinants for t = 0 .. EDGES, put together after Lagrange. */
    int polynomial(int word, int line, int i) {
        if (!stretches(word, line) || i < 0 || i > g.edges) {
            return NONE;
        }
        long[][] table = tableOf(word, line);
        if (table == null) {
            return -2;
        }
        long[] result = new long[g.edges + 1];
        for (int t = 0; t <= g.edges; t++) {
            long[][] m = new long[g.edges][g.edges];
            for (int r = 0; r < g.edges; r++) {
                for (int c = 0; c < g.edges; c++) {
                    m[r][c] = Math.floorMod((r == c ? t : 0) - table[r][c], PRIME);
                }
            }
            long[] basis = {determinant(m)};
            for (int s = 0; s <= g.edges; s++) {
                if (s != t) {
                    long[] wider = new long[basis.length + 1];
                    long over = power(Math.floorMod((long) t - s, PRIME), PRIME - 2);
                    for (int k = 0; k < basis.length; k++) {
                        wider[k + 1] = Math.floorMod(wider[k + 1] + basis[k] * over, PRIME);
                        wider[k] = Math.floorMod(wider[k] - basis[k] * over % PRIME * s, PRIME);
                    }
                    basis = wider;
                }
            }
            for (int k = 0; k <= g.edges; k++) {
                result[k] = (result[k] + basis[k]) % PRIME;
            }
        }
        return (int) result[i];
    }

    int least(int word, int m) {
        row = null;
        if (!fairWord(word) || m < 1 || m > 3) {
            return NONE;
        }
        double rows = Math.pow(m + 1, g.edges);
        if (rows > 60000) {
            return -2;
        }
        for (int r = 0; r < (int) rows; r++) {
            BigInteger[] n = new BigInteger[g.edges];
            int rest = r;
            for (int e = g.edges - 1; e >= 0; e--) {
                n[e] = BigInteger.valueOf(rest % (m + 1));
                rest /= m + 1;
            }
            if (fits(g, n) && loopCount(n) > ringCount(n) && Arrays.equals(n, through(n, word, null))) {
                row = Arrays.stream(n).mapToLong(BigInteger::longValue).toArray();
                return sum(n).intValue();
            }
        }
        return NONE;
    }

    int lies(int edge) {
        return row != null && edge >= 0 && edge < g.edges ? (int) row[edge] : NONE;
    }

    // ---- in earnest

    private long act(BigInteger[] next) {
        if (next == null) {
            return -2;
        }
        undoable.add(theLine);
        if (undoable.size() > 60) {
            undoable.remove(0);
        }
        redoable.clear();
        theLine = next;
        return sum(theLine).longValueExact();
    }

    long lay(int line) {
        return line < 0 || line(line) == null ? NONE : act(line(line));
    }

    long twist(int line, int times) {
        return !fair(line) || times == 0 || Math.abs((long) times) > 99 ? NONE
            : act(twisted(theLine, line, times, null));
    }

    long go(int word) {
        return !fairWord(word) ? NONE : act(through(theLine, word, null));
    }

    boolean undo() {
        if (undoable.isEmpty()) {
            return false;
        }
        redoable.add(theLine);
        theLine = undoable.remove(undoable.size() - 1);
        return true;
    }

    boolean redo() {
        if (redoable.isEmpty()) {
            return false;
        }
        undoable.add(theLine);
        theLine = redoable.remove(redoable.size() - 1);
        return true;
    }

    long image(int box) {
        if (box < 0 || box > 2) {
            return NONE;
        }
        boxes[box] = theLine;
        return sum(theLine).longValueExact();
    }

    long back(int box) {
        if (box < 0 || box > 2 || boxes[box] == null) {
            return NONE;
        }
        theLine = boxes[box];
        undoable.clear();
        redoable.clear();
        return sum(theLine).longValueExact();
    }

    // ---- sketches

    int sketch() {
        String text = tape.toString();
        tape = new StringBuilder();
        row = null;
        if (text.isEmpty()) {
            return NONE;
        }
        int first = text.charAt(0) - 48;
        if (first < 0 || first >= g.pieces.size()) {
            return NONE;
        }
        int piece = first;
        List<Integer> slots = new ArrayList<>();
        for (char c : text.substring(1).toCharArray()) {
            int slot = NONE;
            for (int s = 3 * piece + 2; s >= 3 * piece; s--) {
                slot = edgeAt(s) == c - 97 ? s : slot;
            }
            if (slot == NONE) {
                return NONE;
            }
            slots.add(slot);
            piece = other(slot) / 3;
        }
        if (piece != first) {
            return NONE;
        }
        boolean less = true;
        while (less) {
            less = false;
            for (int i = 0; i < slots.size() && slots.size() > 1; i++) {
                int next = (i + 1) % slots.size();
                if (other(slots.get(i)) == slots.get(next)) {
                    slots.remove(Math.max(i, next));
                    slots.remove(Math.min(i, next));
                    less = true;
                    break;
                }
            }
        }
        BigInteger[] n = zeros();
        StringBuilder left = new StringBuilder();
        for (int slot : slots) {
            n[edgeAt(slot)] = n[edgeAt(slot)].add(BigInteger.ONE);
            left.append((char) (97 + edgeAt(slot)));
        }
        if (!fits(g, n) || !single(n)) {
            return -2;
        }
        StringBuilder line = new StringBuilder();
        for (int slot : trace(n)) {
            line.append((char) (97 + edgeAt(slot)));
        }
        String round = line.toString() + line;
        String about = line.reverse().toString() + line;
        if (line.length() != left.length() || !round.contains(left) && !about.contains(left)) {
            return -2;
        }
        row = Arrays.stream(n).mapToLong(BigInteger::longValue).toArray();
        return slots.size();
    }
}
