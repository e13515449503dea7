import java.util.NoSuchElementException;
import java.util.Random;

/**
 * Random lands that do have a ground: sights and dips are told of it as they are, but for a few that are spoilt.
 * So there is much to doubt along long ways, yet often a ground is left. Each is held against SlowSurvey.
 */
public final class RandomGroundsTest {
    private static final int CELLS = 96;
    private static final int HEIGHT = 900;
    private static final int THROWN = Integer.MIN_VALUE;

    private final Check check = new Check();
    private final Random random;
    private final int mostSights;
    private LandSurvey quick;
    private SlowSurvey slow;
    private int[] bases;
    private int steep;
    private int[][] spans;
    private String made;

    private RandomGroundsTest(long seed, int mostSights) {
        random = new Random(seed);
        this.mostSights = mostSights;
    }

    public static void main(String[] args) {
        int runs = args.length > 0 ? Integer.parseInt(args[0]) : 60;
        long seed = args.length > 1 ? Long.parseLong(args[1]) : 11;
        int mostSights = args.length > 2 ? Integer.parseInt(args[2]) : 14;
        RandomGroundsTest all = new RandomGroundsTest(seed, mostSights);
        for (int n = 0; n < runs; n++) {
            all.run(n);
        }
        all.check.end("random grounds");
    }

    private int from(int low, int high) {
        return low + random.nextInt(high - low + 1);
    }

    private boolean oneIn(int n) {
        return random.nextInt(n) == 0;
    }

    private void run(int n) {
        quick = new LandSurvey();
        slow = new SlowSurvey();
        made = "land " + n + ": ";
        steep = oneIn(2) ? from(0, 3) : from(0, 30);
        tellRules();
        raise();
        tellBreaks();
        int sights = from(2, mostSights);
        int area = oneIn(2) ? 4 : 12;
        for (int k = 0; k < sights; k++) {
            tellSight(k, random.nextInt(area), random.nextInt(Math.min(8, area)));
        }
        for (int spoilt = from(0, 4); spoilt > 0; spoilt--) {
            spoil(random.nextInt(12), random.nextInt(8));
        }
        tellPlans();
        ask();
        int k = random.nextInt(sights);
        same("withdraw " + k, quick.withdraw(k) ? 1 : 0, slow.withdraw(k) ? 1 : 0);
        ask();
    }

    private void same(String what, int got, int due) {
        check.same(made + what, got, due);
    }

    private void tellRules() {
        spans = new int[from(1, 10)][];
        StringBuilder text = new StringBuilder();
        int widest = new int[] {3, 20, 200}[random.nextInt(3)];
        for (int r = 0; r < spans.length; r++) {
            int least = from(0, widest / 2);
            spans[r] = new int[] {least, from(least, widest)};
            text.append("rock ").append((char) ('a' + r)).append(' ').append(least).append(" to ").append(spans[r][1]).append(';');
        }
        for (int r = 0; r < spans.length; r++) {
            text.append("name ").append((char) ('a' + r)).append(" when colour=").append(r).append(';');
        }
        text.append("steep ").append(steep).append(";rank ").append(from(1, 15)).append(" when hand=1;rank ").append(from(5, 30))
            .append(" when hand=2;");
        for (int at = 0; at < text.length(); at += 24) {
            long a = Check.eight(text.toString(), at);
            long b = Check.eight(text.toString(), at + 8);
            long c = Check.eight(text.toString(), at + 16);
            same("feed", quick.feed(a, b, c), slow.feed(a, b, c));
        }
        same("rules", quick.rules(), 0);
        same("rules", slow.rules(), 0);
        for (int cell = 0; cell < CELLS; cell++) {
            quick.cell(cell % 12, cell / 12, HEIGHT, true);
            slow.cell(cell % 12, cell / 12, HEIGHT, true);
        }
    }

    /** A base that changes by steep at most: the lesser of a few slopes is such a one. */
    private void raise() {
        bases = new int[CELLS];
        for (int cell = 0; cell < CELLS; cell++) {
            bases[cell] = 400;
        }
        for (int n = from(1, 4); n > 0; n--) {
            int aside = from(-steep, steep);
            int down = from(-steep, steep);
            int start = from(300, 400);
            for (int cell = 0; cell < CELLS; cell++) {
                bases[cell] = Math.min(bases[cell], start + aside * (cell % 12 - 5) + down * (cell / 12 - 3));
            }
        }
    }

    /** Half of the breaks are there: beyond them all is so much higher. */
    private void tellBreaks() {
        for (int k = from(0, 3); k > 0; k--) {
            boolean down = oneIn(2);
            int at = down ? from(0, 10) : from(0, 6);
            int sides = down ? 8 : 12;
            int thrown = from(-60, 60);
            int room = from(0, 10);
            if (oneIn(2)) {
                for (int cell = 0; cell < CELLS; cell++) {
                    bases[cell] += (down ? cell % 12 : cell / 12) > at ? thrown : 0;
                }
            }
            int cost = from(1, 25);
            int column = down ? at : 0;
            int line = down ? 0 : at;
            same("fault", quick.fault(column, line, down, sides, thrown - room, thrown + room, cost),
                slow.fault(column, line, down, sides, thrown - room, thrown + room, cost));
        }
    }

    private void tellSight(int k, int column, int line) {
        int cell = 12 * line + column;
        int rock = random.nextInt(spans.length);
        int low = 0;
        int high = 0;
        for (int r = rock + 1; r < spans.length; r++) {
            low += spans[r][0];
            high += spans[r][1];
        }
        int z = bases[cell] + from(low, high + spans[rock][1]);
        int depth = Math.max(0, Math.min(999, HEIGHT - z));
        tell(column, line, depth, rock);
        if (!oneIn(3)) {
            int where = random.nextInt(4);
            int beyond = beyond(column, line, where);
            int slack = oneIn(2) ? 0 : from(0, 5);
            int rise = beyond < 0 ? 0 : bases[beyond] - bases[cell] + from(-slack, slack);
            dip(k, where, Math.max(-99, Math.min(99, rise)), slack);
        }
    }

    private static int beyond(int column, int line, int where) {
        int x = column + (where == 0 ? -1 : where == 1 ? 1 : 0);
        int y = line + (where == 2 ? -1 : where == 3 ? 1 : 0);
        return x < 0 || x > 11 || y < 0 || y > 7 ? -1 : 12 * y + x;
    }

    private void tell(int column, int line, int depth, int rock) {
        int hand = random.nextInt(4);
        same("sight", quick.sight(2, column, line, depth, hand, 1000 * rock), slow.sight(2, column, line, depth, hand, 1000 * rock));
    }

    private void dip(int k, int where, int n, int w) {
        same("dip", quick.dip(k, where, n, w) ? 1 : 0, slow.dip(k, where, n, w) ? 1 : 0);
    }

    private void spoil(int column, int line) {
        int k = quick.count(2);
        tell(column, line, from(0, 999), random.nextInt(spans.length));
        dip(k, random.nextInt(4), from(-40, 40), from(0, 3));
    }

    private void tellPlans() {
        for (int n = 0; n < 3; n++) {
            int column = random.nextInt(12);
            int line = random.nextInt(8);
            quick.question(column, line, true);
            slow.question(column, line, true);
            quick.place(line, column % 8, n + 1);
            slow.place(line, column % 8, n + 1);
        }
        int rivalry = from(0, 20);
        quick.rivalry(rivalry);
        slow.rivalry(rivalry);
    }

    private static int answer(Check.Call call) {
        try {
            return call.answer();
        } catch (NoSuchElementException e) {
            return THROWN;
        }
    }

    private void ask() {
        for (int what = 0; what < 4; what++) {
            same("best " + what, quick.best(what), slow.best(what));
        }
        for (int n = 0; n < 1 << quick.count(5); n++) {
            int set = n;
            same("cost " + set, quick.cost(set), slow.cost(set));
            same("kept " + set, quick.kept(set), slow.kept(set));
            for (int i = 0; i < 3; i++) {
                same("doubted " + set + " " + i, quick.doubted(set, i), slow.doubted(set, i));
            }
            for (int cell = random.nextInt(7); cell < CELLS; cell += 7) {
                int column = cell % 12;
                int line = cell / 12;
                for (int w = 0; w < 2; w++) {
                    int what = w;
                    same("base " + set, answer(() -> quick.base(set, column, line, what)), answer(() -> slow.base(set, column, line, what)));
                }
            }
        }
        for (int place = 0; place < 3; place++) {
            same("left " + place, quick.left(place), slow.left(place));
        }
        same("doubt", quick.doubt(), slow.doubt());
        same("next", quick.next(), slow.next());
        same("count 10", quick.count(10), slow.count(10));
    }
}
