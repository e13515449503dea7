import java.util.ArrayList;
import java.util.Arrays;
import java.util.Comparator;
import java.util.HashMap;
import java.util.List;
import java.util.Map;
import java.util.NoSuchElementException;
import java.util.Set;
import java.util.TreeMap;
import java.util.TreeSet;

/** The document's words done in the plainest and slowest way, for runs to be held against. */
final class SlowSurvey {
    private static final int LAND = 96;
    private static final int ZERO = 96;
    private static final long FAR = 1L << 40;

    private interface Expr {
        int tell(Map<String, Integer> facts);
    }

    private static final class Fault extends RuntimeException {
        private static final long serialVersionUID = 1;
        final int code;

        Fault(int kind, int place) {
            code = kind + 16 * place;
        }
    }

    private record Token(char kind, String text, int place) {
    }

    private record Line(String word, int says, Expr test) {
    }

    private static final class Book {
        final List<String> names = new ArrayList<>();
        final List<int[]> spans = new ArrayList<>();
        final List<Line> lines = new ArrayList<>();
        final Map<Integer, int[]> remains = new HashMap<>();
        final Set<Integer> holds = new TreeSet<>();
        final Set<Integer> tight = new TreeSet<>();
        Integer steep;
        Integer drift;

        int steep() {
            return steep == null ? 10 : steep;
        }

        int drift() {
            return drift == null ? 20 : drift;
        }
    }

    private static final class Seen {
        int kind, cell, depth, hand, facts, day;
        Integer gone;
        int[] dip;
        Integer remain;
        boolean washed;
    }

    private record Break(int column, int line, boolean down, int sides, int from, int to, int cost) {
        boolean has(int near, int beyond) {
            for (int k = 0; k < sides; k++) {
                int x = down ? column : column + k;
                int y = down ? line + k : line;
                int other = down ? 12 * y + x + 1 : 12 * (y + 1) + x;
                if (near == 12 * y + x && beyond == other) {
                    return true;
                }
            }
            return false;
        }
    }

    private record Edge(int from, int to, long most) {
    }

    private static final class Ground {
        int set, cost;
        long mask;
        boolean known;
        long[] low, high;
    }

    private int now;
    private int told = -1;
    private final int[] height = new int[LAND];
    private final boolean[] bare = new boolean[LAND];
    private final boolean[] turned = new boolean[LAND];
    private final int[] owner = new int[LAND];
    private final List<Seen> sights = new ArrayList<>();
    private String tape = "";
    private final TreeMap<Integer, Book> books = new TreeMap<>();
    private final List<Break> breaks = new ArrayList<>();
    private int rivalry;
    private final List<int[]> sheets = new ArrayList<>();
    private final Set<Integer> questions = new TreeSet<>();
    private final List<int[]> places = new ArrayList<>();
    private final Map<Integer, Ground> found = new HashMap<>();
    private boolean fresh;

    SlowSurvey() {
        Arrays.fill(height, 500);
        Arrays.fill(bare, true);
        Arrays.fill(owner, -1);
    }

    private static boolean within(int n, int from, int to) {
        return n >= from && n <= to;
    }

    private static boolean on(int column, int line) {
        return within(column, 0, 11) && within(line, 0, 7);
    }

    int days(int n) {
        if (!within(n, 0, 1000) || now + n > 9999) {
            return -1;
        }
        fresh = false;
        return now += n;
    }

    boolean view(int day) {
        if (!within(day, 0, now)) {
            return false;
        }
        fresh = false;
        told = day == now ? -1 : day;
        return true;
    }

    private int shown() {
        return told < 0 ? now : told;
    }

    boolean cell(int column, int line, int h, boolean b) {
        if (!on(column, line) || !within(h, 0, 999)) {
            return false;
        }
        fresh = false;
        height[12 * line + column] = h;
        bare[12 * line + column] = b;
        return true;
    }

    boolean fold(int column, int line, boolean yes) {
        if (!on(column, line)) {
            return false;
        }
        fresh = false;
        turned[12 * line + column] = yes;
        return true;
    }

    boolean own(int column, int line, int who) {
        if (!on(column, line) || !within(who, -1, 3)) {
            return false;
        }
        owner[12 * line + column] = who;
        return true;
    }

    int sight(int kind, int column, int line, int depth, int hand, int facts) {
        if (!within(kind, 0, 4) || !on(column, line) || !within(hand, 0, 5) || !within(facts, 0, 9999)) {
            return -1;
        }
        if (!within(depth, 0, kind < 2 ? 0 : 999) || kind == 0 && !bare[12 * line + column] || sights.size() == 40) {
            return -1;
        }
        fresh = false;
        Seen s = new Seen();
        s.kind = kind;
        s.cell = 12 * line + column;
        s.depth = depth;
        s.hand = hand;
        s.facts = facts;
        s.day = now;
        sights.add(s);
        return sights.size() - 1;
    }

    boolean dip(int k, int where, int n, int w) {
        if (!within(k, 0, sights.size() - 1) || !within(where, 0, 3) || !within(n, -99, 99) || !within(w, 0, 99)) {
            return false;
        }
        if (sights.get(k).dip != null) {
            return false;
        }
        fresh = false;
        sights.get(k).dip = new int[] {where, n, w};
        return true;
    }

    boolean remain(int k, int n, boolean washed) {
        if (!within(k, 0, sights.size() - 1) || !within(n, 0, 9) || sights.get(k).remain != null) {
            return false;
        }
        sights.get(k).remain = n;
        sights.get(k).washed = washed;
        return true;
    }

    boolean withdraw(int k) {
        if (!within(k, 0, sights.size() - 1) || sights.get(k).gone != null) {
            return false;
        }
        fresh = false;
        sights.get(k).gone = now;
        return true;
    }

    int feed(long a, long b, long c) {
        StringBuilder all = new StringBuilder(tape);
        for (long n : new long[] {a, b, c}) {
            for (int k = 7; k >= 0; k--) {
                int sign = (int) (n >> 8 * k & 255);
                if ((sign == 10 || sign >= 32 && sign < 127) && all.length() < 1500) {
                    all.append((char) sign);
                }
            }
        }
        tape = all.toString();
        return tape.length();
    }

    // ---- rules

    private static final Set<String> KEYS = Set.of("rock", "to", "name", "when", "rank", "draw", "full", "broken",
        "dotted", "steep", "drift", "holds", "tight", "remain", "from", "and", "or", "not", "colour", "grain", "hard",
        "fizz", "kind", "hand", "depth", "height", "agree", "apart", "same", "kept");
    private static final Set<String> TELLING = Set.of("colour", "grain", "hard", "fizz", "kind", "hand", "depth",
        "height", "agree", "apart", "same", "kept");

    private List<Token> tokens;
    private int at;
    private Book book;

    private static List<Token> cut(String text) {
        List<Token> all = new ArrayList<>();
        int p = 0;
        while (p < text.length()) {
            char c = text.charAt(p);
            int q = p + 1;
            if (c == ' ' || c == '\n') {
                p++;
                continue;
            }
            if (c >= 'a' && c <= 'z') {
                while (q < text.length() && text.charAt(q) >= 'a' && text.charAt(q) <= 'z') {
                    q++;
                }
                all.add(new Token(q - p > 8 ? '?' : 'w', text.substring(p, q), p));
            } else if (c >= '0' && c <= '9') {
                while (q < text.length() && text.charAt(q) >= '0' && text.charAt(q) <= '9') {
                    q++;
                }
                all.add(new Token(q - p > 4 ? '?' : 'n', text.substring(p, q), p));
            } else {
                all.add(new Token("()<=+-;".indexOf(c) >= 0 ? 's' : '?', text.substring(p, q), p));
            }
            p = q;
        }
        all.add(new Token('e', "", text.length()));
        return all;
    }

    int rules() {
        tokens = cut(tape);
        tape = "";
        at = 0;
        book = new Book();
        try {
            while (peek().kind != 'e') {
                rule();
            }
        } catch (Fault fault) {
            return fault.code;
        }
        if (!books.containsKey(now) && books.size() == 8) {
            return -1;
        }
        fresh = false;
        books.put(now, book);
        return 0;
    }

    private Token peek() {
        return tokens.get(at);
    }

    private Fault bad(int kind) {
        return new Fault(kind, peek().place);
    }

    private void must(String text) {
        if (peek().kind == '?' || !peek().text.equals(text) || peek().kind == 'e') {
            throw bad(1);
        }
        at++;
    }

    private int number(int from, int to) {
        if (peek().kind != 'n') {
            throw bad(1);
        }
        int n = Integer.parseInt(peek().text);
        if (!within(n, from, to)) {
            throw bad(4);
        }
        at++;
        return n;
    }

    private int name(int least) {
        if (peek().kind != 'w' || KEYS.contains(peek().text)) {
            throw bad(1);
        }
        int r = book.names.indexOf(peek().text);
        if (r < 0) {
            throw bad(2);
        }
        if (r < least) {
            throw bad(4);
        }
        at++;
        return r;
    }

    private void rule() {
        String word = peek().kind == 'w' ? peek().text : "";
        switch (word) {
            case "rock" -> {
                if (book.names.size() == 10) {
                    throw bad(5);
                }
                at++;
                if (peek().kind != 'w' || KEYS.contains(peek().text)) {
                    throw bad(1);
                }
                String n = peek().text;
                if (book.names.contains(n)) {
                    throw bad(3);
                }
                at++;
                int from = number(0, 200);
                must("to");
                int to = number(from, 200);
                book.names.add(n);
                book.spans.add(new int[] {from, to});
            }
            case "name", "rank", "draw" -> {
                if (book.lines.size() == 24) {
                    throw bad(5);
                }
                at++;
                int says = word.equals("name") ? name(0) : word.equals("rank") ? number(1, 99) : style();
                must("when");
                book.lines.add(new Line(word, says, tests(0)));
            }
            case "steep" -> {
                if (book.steep != null) {
                    throw bad(3);
                }
                at++;
                book.steep = number(0, 99);
            }
            case "drift" -> {
                if (book.drift != null) {
                    throw bad(3);
                }
                at++;
                book.drift = number(0, 99);
            }
            case "holds" -> {
                at++;
                book.holds.add(name(0));
            }
            case "tight" -> {
                at++;
                book.tight.add(name(0));
            }
            case "remain" -> {
                at++;
                if (peek().kind == 'n' && book.remains.containsKey(Integer.parseInt(peek().text))) {
                    throw bad(3);
                }
                int n = number(0, 9);
                must("from");
                int first = name(0);
                must("to");
                book.remains.put(n, new int[] {first, name(first)});
            }
            default -> throw bad(1);
        }
        must(";");
    }

    private int style() {
        int n = List.of("dotted", "broken", "full").indexOf(peek().text) + 1;
        if (n == 0) {
            throw bad(1);
        }
        at++;
        return n;
    }

    private static int bit(boolean b) {
        return b ? 1 : 0;
    }

    private Expr tests(int depth) {
        Expr left = test(depth);
        while (peek().text.equals("and") || peek().text.equals("or")) {
            boolean and = tokens.get(at++).text.equals("and");
            Expr a = left;
            Expr b = test(depth);
            left = and ? f -> bit(a.tell(f) != 0 & b.tell(f) != 0) : f -> bit(a.tell(f) != 0 | b.tell(f) != 0);
        }
        return left;
    }

    private Expr test(int depth) {
        Expr a = sum(depth);
        if (peek().text.equals("<")) {
            at++;
            Expr b = sum(depth);
            return f -> bit(a.tell(f) < b.tell(f));
        }
        if (peek().text.equals("=")) {
            at++;
            Expr b = sum(depth);
            return f -> bit(a.tell(f) == b.tell(f));
        }
        return a;
    }

    private Expr sum(int depth) {
        Expr left = fact(depth);
        while (peek().text.equals("+") || peek().text.equals("-")) {
            int sign = tokens.get(at++).text.equals("+") ? 1 : -1;
            Expr a = left;
            Expr b = fact(depth);
            left = f -> a.tell(f) + sign * b.tell(f);
        }
        return left;
    }

    private Expr fact(int depth) {
        Token t = peek();
        boolean tells = t.kind == 'w' && TELLING.contains(t.text);
        if (t.kind != 'n' && !tells && !t.text.equals("not") && !t.text.equals("(")) {
            throw bad(1);
        }
        if (depth == 4) {
            throw bad(5);
        }
        at++;
        if (t.kind == 'n') {
            int n = Integer.parseInt(t.text);
            return f -> n;
        }
        if (tells) {
            return f -> f.getOrDefault(t.text, 0);
        }
        if (t.text.equals("not")) {
            Expr a = fact(depth + 1);
            return f -> bit(a.tell(f) == 0);
        }
        Expr a = tests(depth + 1);
        must(")");
        return a;
    }

    private Book law() {
        Map.Entry<Integer, Book> e = books.floorEntry(shown());
        return e == null ? new Book() : e.getValue();
    }

    private static int firstLine(Book law, String word, Map<String, Integer> facts) {
        for (int k = 0; k < law.lines.size(); k++) {
            if (law.lines.get(k).word.equals(word) && law.lines.get(k).test.tell(facts) != 0) {
                return k;
            }
        }
        return -1;
    }

    private Map<String, Integer> factsOf(Seen s) {
        Map<String, Integer> f = new HashMap<>();
        f.put("colour", s.facts / 1000);
        f.put("grain", s.facts / 100 % 10);
        f.put("hard", s.facts / 10 % 10);
        f.put("fizz", s.facts % 10);
        f.put("kind", s.kind);
        f.put("hand", s.hand);
        f.put("depth", s.depth);
        f.put("height", height[s.cell]);
        return f;
    }

    private int namedBy(Seen s) {
        return firstLine(law(), "name", factsOf(s));
    }

    private int rock(Seen s) {
        int k = namedBy(s);
        return k < 0 ? -1 : law().lines.get(k).says;
    }

    private int worth(Seen s) {
        int k = firstLine(law(), "rank", factsOf(s));
        return k < 0 ? 10 : law().lines.get(k).says;
    }

    private boolean says(Seen s) {
        return s.day <= shown() && !(s.gone != null && s.gone <= shown()) && rock(s) >= 0;
    }

    private boolean agesQuarrel(Seen s) {
        if (rock(s) < 0 || s.remain == null || s.washed || !law().remains.containsKey(s.remain)) {
            return false;
        }
        int[] r = law().remains.get(s.remain);
        return !within(rock(s), r[0], r[1]);
    }

    /** Sum over all that lies below a rock: which 0 the least, 1 the greatest thickness. */
    private int under(int rock, int cell, int which) {
        int sum = 0;
        for (int r = 0; r < law().names.size(); r++) {
            if (turned[cell] ? r < rock : r > rock) {
                sum += law().spans.get(r)[which];
            }
        }
        return sum;
    }

    private int span(int rock, int which) {
        return law().spans.get(rock)[which];
    }

    private int[] saysOfBase(Seen s) {
        int z = height[s.cell] - s.depth;
        int slack = s.kind == 1 ? law().drift() : 0;
        int r = rock(s);
        return new int[] {z - under(r, s.cell, 1) - span(r, 1) - slack, z - under(r, s.cell, 0) + slack};
    }

    private static int step(int cell, int where) {
        int x = cell % 12 + (where == 0 ? -1 : where == 1 ? 1 : 0);
        int y = cell / 12 + (where == 2 ? -1 : where == 3 ? 1 : 0);
        return on(x, y) ? 12 * y + x : -1;
    }

    // ---- grounds

    int fault(int column, int line, boolean down, int sides, int from, int to, int cost) {
        if (!on(column, line) || !within(sides, 1, 12) || from > to || from < -300 || to > 300) {
            return -1;
        }
        int lastX = down ? column + 1 : column + sides - 1;
        int lastY = down ? line + sides - 1 : line + 1;
        if (!on(lastX, lastY) || !within(cost, 1, 99) || breaks.size() == 4) {
            return -1;
        }
        fresh = false;
        breaks.add(new Break(column, line, down, sides, from, to, cost));
        return breaks.size() - 1;
    }

    boolean rivalry(int n) {
        if (!within(n, 0, 999)) {
            return false;
        }
        rivalry = n;
        return true;
    }

    private List<Edge> neighbours(int set, long mask) {
        List<Edge> edges = new ArrayList<>();
        for (int cell = 0; cell < LAND; cell++) {
            for (int where : new int[] {1, 3}) {
                int beyond = step(cell, where);
                if (beyond >= 0) {
                    side(edges, set, mask, cell, beyond);
                }
            }
        }
        return edges;
    }

    private void side(List<Edge> edges, int set, long mask, int near, int beyond) {
        long from = -law().steep();
        long to = law().steep();
        boolean dipped = false;
        for (int k = 0; k < sights.size(); k++) {
            Seen s = sights.get(k);
            if (saying[k] && (mask >> k & 1) == 0 && s.dip != null) {
                int other = step(s.cell, s.dip[0]);
                boolean forth = s.cell == near && other == beyond;
                boolean back = s.cell == beyond && other == near;
                if (forth || back) {
                    int n = forth ? s.dip[1] : -s.dip[1];
                    from = dipped ? Math.max(from, n - s.dip[2]) : n - s.dip[2];
                    to = dipped ? Math.min(to, n + s.dip[2]) : n + s.dip[2];
                    dipped = true;
                }
            }
        }
        for (int b = breaks.size() - 1; b >= 0; b--) {
            if ((set >> b & 1) != 0 && breaks.get(b).has(near, beyond)) {
                from = breaks.get(b).from;
                to = breaks.get(b).to;
            }
        }
        edges.add(new Edge(near, beyond, to));
        edges.add(new Edge(beyond, near, -from));
    }

    private List<Edge> all(int set, long mask) {
        List<Edge> edges = neighbours(set, mask);
        for (int k = 0; k < sights.size(); k++) {
            if (saying[k] && (mask >> k & 1) == 0) {
                edges.add(new Edge(ZERO, sights.get(k).cell, bounds[k][1]));
                edges.add(new Edge(sights.get(k).cell, ZERO, -bounds[k][0]));
            }
        }
        return edges;
    }

    /** Whether the differences can all be met; dist is carried on as far as it goes. */
    private static boolean settles(List<Edge> edges, long[] dist, boolean back) {
        for (int pass = 0; pass < 100; pass++) {
            boolean moved = false;
            for (Edge e : edges) {
                int u = back ? e.to : e.from;
                int v = back ? e.from : e.to;
                if (dist[u] < FAR && dist[u] + e.most < dist[v]) {
                    dist[v] = dist[u] + e.most;
                    moved = true;
                }
            }
            if (!moved) {
                return true;
            }
        }
        return false;
    }

    private record Try(int cost, long mask) {
    }

    private boolean[] saying;
    private int[][] bounds;
    private List<Try> tries;

    private void refresh() {
        if (fresh) {
            return;
        }
        fresh = true;
        found.clear();
        saying = new boolean[sights.size()];
        bounds = new int[sights.size()][];
        List<Integer> ids = new ArrayList<>();
        for (int k = 0; k < sights.size(); k++) {
            saying[k] = says(sights.get(k));
            if (saying[k]) {
                bounds[k] = saysOfBase(sights.get(k));
                ids.add(k);
            }
        }
        tries = new ArrayList<>();
        tries.add(new Try(0, 0));
        for (int n = 0; n < 3; n++) {
            List<Try> more = new ArrayList<>();
            for (Try t : tries) {
                for (int k : ids) {
                    if (Long.bitCount(t.mask) == n && t.mask < 1L << k) {
                        more.add(new Try(t.cost + worth(sights.get(k)), t.mask | 1L << k));
                    }
                }
            }
            tries.addAll(more);
        }
        tries.sort(Comparator.comparingInt(Try::cost).thenComparingLong(Try::mask));
    }

    private Ground ground(int set) {
        refresh();
        if (found.containsKey(set)) {
            return found.get(set);
        }
        Ground best = null;
        for (Try t : tries) {
            if (settles(all(set, t.mask), new long[LAND + 1], false)) {
                best = made(set, t);
                break;
            }
        }
        found.put(set, best);
        return best;
    }

    private Ground made(int set, Try t) {
        Ground g = new Ground();
        g.set = set;
        g.mask = t.mask;
        g.cost = t.cost;
        for (int b = 0; b < breaks.size(); b++) {
            g.cost += (set >> b & 1) != 0 ? breaks.get(b).cost : 0;
        }
        for (int k = 0; k < sights.size(); k++) {
            g.known |= saying[k] && (g.mask >> k & 1) == 0;
        }
        g.low = new long[LAND + 1];
        g.high = new long[LAND + 1];
        Arrays.fill(g.low, FAR);
        Arrays.fill(g.high, FAR);
        g.low[ZERO] = 0;
        g.high[ZERO] = 0;
        settles(all(set, t.mask), g.high, false);
        settles(all(set, t.mask), g.low, true);
        for (int c = 0; c < LAND; c++) {
            g.low[c] = -g.low[c];
        }
        return g;
    }

    private boolean isSet(int set) {
        return within(set, 0, (1 << breaks.size()) - 1);
    }

    private Ground best() {
        Ground best = null;
        for (int set = 0; set < 1 << breaks.size(); set++) {
            Ground g = ground(set);
            if (g != null && (best == null || g.cost < best.cost)) {
                best = g;
            }
        }
        return best;
    }

    private List<Ground> kept() {
        List<Ground> all = new ArrayList<>();
        Ground best = best();
        for (int set = 0; set < 1 << breaks.size(); set++) {
            if (ground(set) != null && ground(set).cost - best.cost <= rivalry) {
                all.add(ground(set));
            }
        }
        return all;
    }

    private boolean anyUnknown() {
        for (Ground g : kept()) {
            if (!g.known) {
                return true;
            }
        }
        return false;
    }

    int look(int k, int what) {
        if (!within(k, 0, sights.size() - 1) || !within(what, 0, 7)) {
            throw new NoSuchElementException();
        }
        Seen s = sights.get(k);
        if (what > 4 && !says(s)) {
            throw new NoSuchElementException();
        }
        return switch (what) {
            case 0 -> rock(s);
            case 1 -> worth(s);
            case 2 -> bit(says(s));
            case 3 -> bit(agesQuarrel(s));
            case 4 -> best() == null ? 0 : (int) (best().mask >> k & 1);
            case 5, 6 -> saysOfBase(s)[what - 5];
            default -> namedBy(s);
        };
    }

    int cost(int set) {
        return !isSet(set) || ground(set) == null ? -1 : ground(set).cost;
    }

    int doubted(int set, int i) {
        if (!isSet(set) || ground(set) == null) {
            return -1;
        }
        List<Integer> all = new ArrayList<>();
        for (int k = 0; k < 40; k++) {
            if ((ground(set).mask >> k & 1) != 0) {
                all.add(k);
            }
        }
        return within(i, 0, all.size() - 1) ? all.get(i) : -1;
    }

    int best(int what) {
        Ground best = best();
        return switch (what) {
            case 0 -> best == null ? -1 : best.set;
            case 1 -> best == null ? -1 : best.cost;
            case 2 -> best == null ? -1 : Long.bitCount(best.mask);
            case 3 -> kept().size();
            default -> -1;
        };
    }

    int kept(int set) {
        return !isSet(set) ? -1 : bit(ground(set) != null && kept().contains(ground(set)));
    }

    int base(int set, int column, int line, int what) {
        if (!isSet(set) || !on(column, line) || !within(what, 0, 1) || ground(set) == null || !ground(set).known) {
            throw new NoSuchElementException();
        }
        return (int) (what == 0 ? ground(set).low : ground(set).high)[12 * line + column];
    }

    private int mayLie(Ground g, int cell, int depth) {
        int rocks = law().names.size();
        int bits = 0;
        int z = height[cell] - depth;
        int least = 0;
        for (int r = 0; r < rocks; r++) {
            least += span(r, 0);
            boolean may = !g.known;
            for (long b = g.low[cell]; g.known && b <= g.high[cell] && !may; b++) {
                may = b + under(r, cell, 0) <= z && z <= b + under(r, cell, 1) + span(r, 1);
            }
            bits |= may ? 1 << r : 0;
        }
        bits |= !g.known || g.high[cell] > z ? 1024 : 0;
        bits |= !g.known || z > g.low[cell] + least ? 2048 : 0;
        return bits;
    }

    private int mayLie(int cell, int depth) {
        int bits = 0;
        for (Ground g : kept()) {
            bits |= mayLie(g, cell, depth);
        }
        return bits;
    }

    int lies(int column, int line, int depth) {
        if (!on(column, line) || !within(depth, 0, 2000) || kept().isEmpty()) {
            return -1;
        }
        return mayLie(12 * line + column, depth);
    }

    int line(int column, int line, int where) {
        if (!on(column, line) || !within(where, 0, 3) || step(12 * line + column, where) < 0 || kept().isEmpty()) {
            return -1;
        }
        int[] n = new int[3];
        int size = kept().size();
        for (Ground g : kept()) {
            int a = mayLie(g, 12 * line + column, 0);
            int b = mayLie(g, step(12 * line + column, where), 0);
            boolean one = Integer.bitCount(a) == 1 && Integer.bitCount(b) == 1;
            n[0] += bit(one && a != b);
            n[1] += bit((a & b) == 0);
            n[2] += bit(one && a == b);
        }
        Map<String, Integer> f = new HashMap<>();
        f.put("agree", 1000 * n[0] / size);
        f.put("apart", 1000 * n[1] / size);
        f.put("same", 1000 * n[2] / size);
        f.put("kept", size);
        int k = firstLine(law(), "draw", f);
        if (k >= 0) {
            return law().lines.get(k).says;
        }
        return n[0] == size ? 3 : n[1] == size ? 2 : n[2] == size ? 0 : 1;
    }

    private int[] deep(int cell, int rock) {
        int from = Integer.MAX_VALUE;
        int to = Integer.MIN_VALUE;
        for (Ground g : kept()) {
            from = Math.min(from, (int) (height[cell] - g.high[cell]) - under(rock, cell, 1) - span(rock, 1));
            to = Math.max(to, (int) (height[cell] - g.low[cell]) - under(rock, cell, 0) - span(rock, 0));
        }
        return new int[] {from, to};
    }

    int deep(int column, int line, int rock, int what) {
        if (!on(column, line) || !within(rock, 0, law().names.size() - 1) || !within(what, 0, 1)) {
            throw new NoSuchElementException();
        }
        if (kept().isEmpty() || anyUnknown()) {
            throw new NoSuchElementException();
        }
        return deep(12 * line + column, rock)[what];
    }

    int water(int column, int line, int what) {
        if (!on(column, line) || !within(what, 0, 1) || kept().isEmpty() || anyUnknown()) {
            return -1;
        }
        int cell = 12 * line + column;
        List<Integer> down = new ArrayList<>();
        for (int r = 0; r < law().names.size(); r++) {
            down.add(turned[cell] ? 0 : down.size(), r);
        }
        for (int k = 0; k + 1 < down.size(); k++) {
            int r = down.get(k);
            if (law().holds.contains(r) && law().tight.contains(down.get(k + 1))) {
                int from = deep(cell, r)[0] + span(r, 1);
                if (from >= 0) {
                    return what == 0 ? from : deep(cell, r)[1] + span(r, 0);
                }
            }
        }
        return -1;
    }

    int seam(int rock, int who, int what) {
        if (!within(rock, 0, law().names.size() - 1) || !within(who, 0, 3) || !within(what, 0, 1)) {
            return -1;
        }
        if (kept().isEmpty() || anyUnknown()) {
            return -1;
        }
        int sum = 0;
        for (int cell = 0; cell < LAND; cell++) {
            if (owner[cell] == who) {
                int[] d = deep(cell, rock);
                if (what == 0) {
                    sum += d[0] >= 0 ? span(rock, 0) : 0;
                } else {
                    sum += d[1] + span(rock, 0) > 0 ? span(rock, 1) : 0;
                }
            }
        }
        return sum;
    }

    int sheet(int column, int line, int toColumn, int toLine) {
        if (!on(column, line) || !on(toColumn, toLine) || column > toColumn || line > toLine) {
            return -1;
        }
        if (kept().isEmpty() || sheets.size() == 10) {
            return -1;
        }
        int[] bits = new int[LAND];
        for (int cell = 0; cell < LAND; cell++) {
            boolean of = within(cell % 12, column, toColumn) && within(cell / 12, line, toLine);
            bits[cell] = of ? mayLie(cell, 0) : -1;
        }
        sheets.add(bits);
        return sheets.size() - 1;
    }

    int drawn(int k, int column, int line) {
        return !within(k, 0, sheets.size() - 1) || !on(column, line) ? -1 : sheets.get(k)[12 * line + column];
    }

    int quarrel(int a, int b) {
        if (!within(a, 0, sheets.size() - 1) || !within(b, 0, sheets.size() - 1)) {
            return -1;
        }
        int n = 0;
        for (int cell = 0; cell < LAND; cell++) {
            int p = sheets.get(a)[cell];
            int q = sheets.get(b)[cell];
            n += bit(p >= 0 && q >= 0 && (p & q) == 0);
        }
        return n;
    }

    int stale(int k) {
        if (!within(k, 0, sheets.size() - 1) || kept().isEmpty()) {
            return -1;
        }
        int n = 0;
        for (int cell = 0; cell < LAND; cell++) {
            n += bit(sheets.get(k)[cell] >= 0 && sheets.get(k)[cell] != mayLie(cell, 0));
        }
        return n;
    }

    private List<int[]> doublesOf(int hand, int other) {
        List<int[]> all = new ArrayList<>();
        for (Seen s : sights) {
            for (Seen t : sights) {
                if (s.hand == hand && t.hand == other && says(s) && says(t) && s.cell == t.cell && s.depth == t.depth) {
                    all.add(new int[] {rock(s), rock(t)});
                }
            }
        }
        return all;
    }

    int doubles(int a, int b, int what) {
        if (!within(a, 0, 5) || !within(b, 0, 5) || a == b || !within(what, 0, 1)) {
            return -1;
        }
        int n = 0;
        for (int[] d : doublesOf(a, b)) {
            n += what == 0 || d[0] == d[1] ? 1 : 0;
        }
        return n;
    }

    int habit(int hand) {
        if (!within(hand, 0, 5)) {
            throw new NoSuchElementException();
        }
        int n = 0;
        int s = 0;
        for (int other = 0; other < 6; other++) {
            if (other != hand) {
                for (int[] d : doublesOf(hand, other)) {
                    n++;
                    s += d[0] - d[1];
                }
            }
        }
        return n >= 3 && 2 * Math.abs(s) > n ? Integer.signum(s) : 0;
    }

    boolean question(int column, int line, boolean yes) {
        int cell = 12 * line + column;
        if (!on(column, line) || yes && questions.size() == 8 && !questions.contains(cell)) {
            return false;
        }
        if (yes) {
            questions.add(cell);
        } else {
            questions.remove(cell);
        }
        return true;
    }

    int place(int column, int line, int cost) {
        if (!on(column, line) || !within(cost, 1, 99) || places.size() == 8) {
            return -1;
        }
        places.add(new int[] {12 * line + column, cost});
        return places.size() - 1;
    }

    int doubt() {
        Ground best = best();
        if (best == null || !best.known) {
            return -1;
        }
        int sum = 0;
        for (int q : questions) {
            sum += (int) (best.high[q] - best.low[q]);
        }
        return sum;
    }

    private long[][] waysOf(Ground g) {
        long[][] way = new long[LAND][LAND];
        for (int a = 0; a < LAND; a++) {
            Arrays.fill(way[a], FAR);
            way[a][a] = 0;
        }
        for (Edge e : neighbours(g.set, g.mask)) {
            way[e.from][e.to] = Math.min(way[e.from][e.to], e.most);
        }
        for (int k = 0; k < LAND; k++) {
            for (int a = 0; a < LAND; a++) {
                for (int b = 0; b < LAND; b++) {
                    way[a][b] = Math.min(way[a][b], way[a][k] + way[k][b]);
                }
            }
        }
        return way;
    }

    int left(int k) {
        Ground best = best();
        if (!within(k, 0, places.size() - 1) || best == null || !best.known) {
            return -1;
        }
        long[][] way = waysOf(best);
        int p = places.get(k)[0];
        long most = Long.MIN_VALUE;
        for (long v : new long[] {best.low[p], best.high[p], best.low[p] + best.high[p] >> 1}) {
            long sum = 0;
            for (int q : questions) {
                sum += Math.min(best.high[q], v + way[p][q]) - Math.max(best.low[q], v - way[q][p]);
            }
            most = Math.max(most, sum);
        }
        return (int) most;
    }

    int next() {
        if (doubt() < 0) {
            return -1;
        }
        int first = -1;
        for (int k = 0; k < places.size(); k++) {
            if (doubt() - left(k) > 0 && (first < 0 || gain(k) * places.get(first)[1] > gain(first) * places.get(k)[1])) {
                first = k;
            }
        }
        return first;
    }

    private long gain(int k) {
        return doubt() - left(k);
    }

    int count(int what) {
        int n = 0;
        switch (what) {
            case 0: return now;
            case 1: return shown();
            case 2: return sights.size();
            case 3:
                for (Seen s : sights) {
                    n += bit(says(s));
                }
                return n;
            case 4: return law().names.size();
            case 5: return breaks.size();
            case 6: return sheets.size();
            case 7:
                for (Seen s : sights) {
                    n += bit(says(s) && agesQuarrel(s));
                }
                return n;
            case 8: return books.size();
            case 9: return tape.length();
            case 10:
                for (int cell = 0; cell < LAND && !kept().isEmpty(); cell++) {
                    n += bit(Integer.bitCount(mayLie(cell, 0)) == 1);
                }
                return n;
            case 11: return questions.size();
            case 12: return places.size();
            default: return -1;
        }
    }
}
