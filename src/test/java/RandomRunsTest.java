import java.util.NoSuchElementException;
import java.util.Random;

/** Random runs of all calls, each answer held against that of SlowSurvey. The seeds are fixed. */
public final class RandomRunsTest {
    private static final int THROWN = Integer.MIN_VALUE;
    private static final String[] TESTS = {"1", "colour = 1", "colour < 3 and grain < 5", "kind = 1 or kind = 2",
        "not hard", "height < 500", "depth + 10 < 60", "hand = 2 or fizz", "( colour = 2 or colour = 3 ) and not ( grain < 2 )",
        "agree = 1000", "apart < 500", "same = 1000", "kept = 1", "kept < 3 and agree < 500", "0", "colour - grain < 0 - 1",
        "not ( not colour < hand )", "( ( ( grain ) - 3 ) < hard )", "not not not fizz", "( ( kind < 2 and ( hand < 2 ) ) or not hard )"};

    private final Random random;
    private final Check check = new Check();
    private LandSurvey quick;
    private SlowSurvey slow;
    private final int mostSights;
    private int width;
    private int depthSpan;

    private RandomRunsTest(long seed, int mostSights) {
        random = new Random(seed);
        this.mostSights = mostSights;
    }

    public static void main(String[] args) {
        int runs = args.length > 0 ? Integer.parseInt(args[0]) : 60;
        long seed = args.length > 1 ? Long.parseLong(args[1]) : 7;
        int mostSights = args.length > 2 ? Integer.parseInt(args[2]) : 12;
        RandomRunsTest all = new RandomRunsTest(seed, mostSights);
        for (int n = 0; n < runs; n++) {
            all.run();
        }
        all.check.end("random runs");
    }

    private int below(int n) {
        return random.nextInt(n);
    }

    private int from(int low, int high) {
        return low + random.nextInt(high - low + 1);
    }

    private boolean often() {
        return below(10) != 0;
    }

    private int column() {
        return below(60) == 0 ? from(-1, 12) : below(Math.min(12, width));
    }

    private int row() {
        return below(60) == 0 ? from(-1, 8) : below(Math.min(8, width));
    }

    private void run() {
        quick = new LandSurvey();
        slow = new SlowSurvey();
        width = new int[] {2, 3, 5, 12}[below(4)];
        depthSpan = new int[] {20, 80, 300, 999}[below(4)];
        tellRules();
        int tells = from(5, 2 * mostSights + 1);
        for (int n = 0; n < tells; n++) {
            tell();
        }
        for (int n = 0; n < 150; n++) {
            if (below(8) == 0) {
                tell();
            } else {
                ask();
            }
        }
    }

    private void tellRules() {
        StringBuilder text = new StringBuilder();
        int rocks = from(1, 6);
        int widest = new int[] {0, 10, 40, 200}[below(4)];
        for (int r = 0; r < rocks; r++) {
            int least = from(0, widest);
            text.append("rock r").append((char) ('a' + r)).append(' ').append(least).append(" to ")
                .append(from(least, widest)).append(" ; ");
        }
        if (often()) {
            text.append("steep ").append(below(3) == 0 ? from(0, 99) : from(0, 12)).append(';');
        }
        if (below(2) == 0) {
            text.append("drift ").append(from(0, 99)).append(";\n");
        }
        for (int n = from(1, 8); n > 0; n--) {
            text.append(" name r").append((char) ('a' + below(rocks))).append(" when ").append(test()).append(';');
        }
        for (int n = from(0, 3); n > 0; n--) {
            text.append(" rank ").append(from(1, 30)).append(" when ").append(test()).append(';');
        }
        for (int n = from(0, 2); n > 0; n--) {
            text.append(" draw ").append(new String[] {"full", "broken", "dotted"}[below(3)]).append(" when ")
                .append(test()).append(';');
        }
        for (int n = from(0, 4); n > 0; n--) {
            text.append(below(2) == 0 ? "holds r" : "tight r").append((char) ('a' + below(rocks))).append(";");
        }
        for (int n = from(0, 3); n > 0; n--) {
            int first = below(rocks);
            text.append("remain ").append(n).append(" from r").append((char) ('a' + first)).append(" to r")
                .append((char) ('a' + from(first, rocks - 1))).append(" ;");
        }
        feed(below(5) == 0 ? spoilt(text) : text.toString());
        same("rules()", quick.rules(), slow.rules());
    }

    private String test() {
        return TESTS[below(TESTS.length)];
    }

    private String spoilt(StringBuilder text) {
        String[] bits = {" ", "(", ")", "a", "not ", "not not ", "((((", "9", "rock", ";", "to", "=", "A", "and", "from"};
        int at = below(text.length());
        if (below(2) == 0) {
            text.deleteCharAt(at);
        } else {
            text.insert(at, bits[below(bits.length)]);
        }
        return text.toString();
    }

    private void feed(String text) {
        for (int at = 0; at < text.length(); at += 24) {
            long a = Check.eight(text, at);
            long b = Check.eight(text, at + 8);
            long c = Check.eight(text, at + 16);
            same("feed", quick.feed(a, b, c), slow.feed(a, b, c));
        }
    }

    private void same(String call, int got, int due) {
        check.same(call, got, due);
    }

    private void same(String call, boolean got, boolean due) {
        check.same(call, got ? 1 : 0, due ? 1 : 0);
    }

    private void tell() {
        switch (below(16)) {
            case 0 -> {
                int n = below(20) == 0 ? from(-1, 1001) : below(4);
                same("days " + n, quick.days(n), slow.days(n));
            }
            case 1 -> {
                int day = from(-1, quick.count(0) + (below(4) == 0 ? 1 : 0));
                same("view " + day, quick.view(day), slow.view(day));
            }
            case 2 -> tellCell();
            case 3 -> {
                int x = column();
                int y = row();
                boolean yes = below(2) == 0;
                same("fold", quick.fold(x, y, yes), slow.fold(x, y, yes));
            }
            case 4 -> {
                int x = column();
                int y = row();
                int who = often() ? below(2) : from(-2, 5);
                same("own", quick.own(x, y, who), slow.own(x, y, who));
            }
            case 5, 6 -> tellDip();
            case 7 -> {
                int k = sight();
                int n = often() ? from(0, 3) : from(-1, 10);
                boolean washed = below(3) == 0;
                same("remain", quick.remain(k, n, washed), slow.remain(k, n, washed));
            }
            case 8 -> {
                int k = sight();
                same("withdraw", quick.withdraw(k), slow.withdraw(k));
            }
            case 9 -> tellBreak();
            case 10 -> tellPlan();
            case 11 -> {
                if (below(4) == 0) {
                    tellRules();
                }
            }
            default -> tellSight();
        }
    }

    private int sight() {
        return often() ? below(quick.count(2) + 1) : from(-1, 41);
    }

    private void tellCell() {
        int x = column();
        int y = row();
        int h = often() ? from(480, 520) : from(-1, 1000);
        boolean bare = often();
        same("cell", quick.cell(x, y, h, bare), slow.cell(x, y, h, bare));
    }

    private void tellSight() {
        if (quick.count(2) >= mostSights) {
            return;
        }
        int kind = often() ? below(5) : from(-1, 5);
        int x = column();
        int y = row();
        int depth = kind < 2 && often() ? 0 : from(0, depthSpan) / (below(2) + 1);
        int hand = often() ? below(3) : from(-1, 6);
        int facts = often() ? 1000 * below(4) + below(1000) : from(-1, 10000);
        same("sight", quick.sight(kind, x, y, depth, hand, facts), slow.sight(kind, x, y, depth, hand, facts));
    }

    private void tellDip() {
        int k = sight();
        int where = often() ? below(4) : from(-1, 4);
        int n = often() ? from(-30, 30) : from(-100, 100);
        int w = often() ? from(0, 12) : from(-1, 100);
        same("dip", quick.dip(k, where, n, w), slow.dip(k, where, n, w));
    }

    private void tellBreak() {
        if (quick.count(5) >= 3) {
            return;
        }
        int x = column();
        int y = row();
        boolean down = below(2) == 0;
        int sides = below(2) == 0 ? (down ? 8 - y : 12 - x) : from(0, 13);
        int low = from(-301, 300);
        int high = often() ? from(Math.min(low, 300), 301) : from(-300, 300);
        int cost = often() ? from(1, 20) : from(0, 100);
        same("fault", quick.fault(x, y, down, sides, low, high, cost), slow.fault(x, y, down, sides, low, high, cost));
    }

    private void tellPlan() {
        int x = column();
        int y = row();
        if (below(2) == 0) {
            boolean yes = often();
            same("question", quick.question(x, y, yes), slow.question(x, y, yes));
        } else {
            int cost = often() ? from(1, 10) : from(0, 100);
            same("place", quick.place(x, y, cost), slow.place(x, y, cost));
        }
    }

    private static int answer(Check.Call call) {
        try {
            return call.answer();
        } catch (NoSuchElementException e) {
            return THROWN;
        }
    }

    private void ask() {
        int x = column();
        int y = row();
        int set = often() ? below(1 << quick.count(5)) : from(-1, 17);
        int what = often() ? below(2) : from(-1, 2);
        switch (below(20)) {
            case 0, 1 -> {
                int k = sight();
                int asked = from(-1, 8);
                same("look " + k + " " + asked, answer(() -> quick.look(k, asked)), answer(() -> slow.look(k, asked)));
            }
            case 2 -> same("cost " + set, quick.cost(set), slow.cost(set));
            case 3 -> {
                int i = from(-1, 3);
                same("doubted " + set + " " + i, quick.doubted(set, i), slow.doubted(set, i));
            }
            case 4 -> {
                int asked = from(-1, 4);
                same("best " + asked, quick.best(asked), slow.best(asked));
            }
            case 5 -> same("kept " + set, quick.kept(set), slow.kept(set));
            case 6, 7 -> same("base", answer(() -> quick.base(set, x, y, what)), answer(() -> slow.base(set, x, y, what)));
            case 8 -> {
                int depth = often() ? from(0, 60) : from(-1, 2001);
                same("lies", quick.lies(x, y, depth), slow.lies(x, y, depth));
            }
            case 9 -> {
                int where = from(-1, 4);
                same("line", quick.line(x, y, where), slow.line(x, y, where));
            }
            case 10 -> {
                int rock = from(-1, 6);
                same("deep", answer(() -> quick.deep(x, y, rock, what)), answer(() -> slow.deep(x, y, rock, what)));
            }
            case 11 -> same("water", quick.water(x, y, what), slow.water(x, y, what));
            case 12 -> {
                int rock = from(-1, 6);
                int who = from(-1, 4);
                same("seam", quick.seam(rock, who, what), slow.seam(rock, who, what));
            }
            case 13 -> askSheets();
            case 14 -> {
                int a = from(-1, 6);
                int b = below(3);
                same("doubles", quick.doubles(a, b, what), slow.doubles(a, b, what));
                same("habit " + a, answer(() -> quick.habit(a)), answer(() -> slow.habit(a)));
            }
            case 15 -> same("doubt", quick.doubt(), slow.doubt());
            case 16 -> {
                int k = from(-1, 8);
                same("left " + k, quick.left(k), slow.left(k));
            }
            case 17 -> same("next", quick.next(), slow.next());
            case 18 -> {
                int asked = from(-1, 13);
                same("count " + asked, quick.count(asked), slow.count(asked));
            }
            default -> {
                int n = often() ? below(20) : from(-1, 1000);
                same("rivalry", quick.rivalry(n), slow.rivalry(n));
            }
        }
    }

    private void askSheets() {
        int a = from(-1, 3);
        int b = from(-1, 3);
        int x = column();
        int y = row();
        int toX = column();
        int toY = row();
        same("sheet", quick.sheet(x, y, toX, toY), slow.sheet(x, y, toX, toY));
        same("quarrel", quick.quarrel(a, b), slow.quarrel(a, b));
        same("stale", quick.stale(a), slow.stale(a));
        same("drawn", quick.drawn(b, toX, toY), slow.drawn(b, toX, toY));
    }
}
