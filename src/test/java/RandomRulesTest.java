import java.util.NoSuchElementException;
import java.util.Random;

/** Random texts of rules, most of them spoilt at a token or a sign, held against SlowSurvey. The seeds are fixed. */
public final class RandomRulesTest {
    private static final int THROWN = Integer.MIN_VALUE;
    private static final String[] WORDS = {"rock", "to", "name", "when", "rank", "draw", "full", "broken", "dotted", "steep", "drift",
        "holds", "tight", "remain", "from", "and", "or", "not", "colour", "grain", "hard", "fizz", "kind", "hand", "depth", "height",
        "agree", "apart", "same", "kept", "(", ")", "<", "=", "+", "-", ";", "0", "1", "9", "10", "99", "100", "200", "201", "0003",
        "9999", "10000", "00000", "ra", "rb", "rc", "zz", "abcdefgh", "abcdefghi", "A", ",", "\t", "5to", "ra9"};
    private static final String[] FACTS = {"colour", "grain", "hard", "fizz", "kind", "hand", "depth", "height", "agree", "apart",
        "same", "kept"};

    private final Check check = new Check();
    private final Random random;
    private StringBuilder text;
    private int rocks;

    private RandomRulesTest(long seed) {
        random = new Random(seed);
    }

    public static void main(String[] args) {
        int texts = args.length > 0 ? Integer.parseInt(args[0]) : 4000;
        long seed = args.length > 1 ? Long.parseLong(args[1]) : 13;
        RandomRulesTest all = new RandomRulesTest(seed);
        for (int n = 0; n < texts; n++) {
            all.run();
        }
        all.check.end("random rules");
    }

    private int from(int low, int high) {
        return low + random.nextInt(high - low + 1);
    }

    private boolean oneIn(int n) {
        return random.nextInt(n) == 0;
    }

    private void run() {
        text = new StringBuilder();
        rocks = 0;
        int mostRules = oneIn(12) ? 40 : 12;
        for (int n = from(0, mostRules); n > 0; n--) {
            rule();
        }
        for (int spoilt = oneIn(3) ? 0 : from(1, 2); spoilt > 0 && text.length() > 0; spoilt--) {
            spoil();
        }
        if (text.length() > 1500) {
            text.setLength(1500);
        }
        held(text.toString());
    }

    private void put(Object token) {
        String written = String.valueOf(token);
        char last = text.length() == 0 ? ' ' : text.charAt(text.length() - 1);
        boolean glued = Character.isLetter(last) && Character.isLetter(written.charAt(0))
            || Character.isDigit(last) && Character.isDigit(written.charAt(0));
        if (glued || oneIn(2)) {
            text.append(oneIn(8) ? '\n' : ' ');
        }
        text.append(written);
    }

    private void put(Object... tokens) {
        for (Object token : tokens) {
            put(token);
        }
    }

    private String rockName(int k) {
        return "r" + (char) ('a' + k);
    }

    /** Now and then one that is not told. */
    private String someRock() {
        return rocks == 0 || oneIn(60) ? "zz" : rockName(random.nextInt(rocks));
    }

    private void rule() {
        switch (rocks == 0 ? 0 : random.nextInt(14)) {
            case 0, 1, 2 -> {
                int least = from(0, oneIn(30) ? 210 : 100);
                int most = from(oneIn(30) ? 0 : least, oneIn(30) ? 220 : Math.max(least, 200));
                put("rock", oneIn(40) ? someRock() : rockName(rocks), least, "to", most, ";");
                rocks++;
            }
            case 3, 4, 5, 6 -> {
                put("name", someRock(), "when");
                tests(0);
                put(";");
            }
            case 7, 8 -> {
                put("rank", from(oneIn(30) ? 0 : 1, oneIn(30) ? 101 : 99), "when");
                tests(0);
                put(";");
            }
            case 9 -> {
                put("draw", new String[] {"full", "broken", "dotted"}[random.nextInt(3)], "when");
                tests(0);
                put(";");
            }
            case 10 -> put(oneIn(2) ? "steep" : "drift", from(0, oneIn(20) ? 101 : 99), ";");
            case 11 -> put("holds", someRock(), ";");
            case 12 -> put("tight", someRock(), ";");
            default -> {
                int first = random.nextInt(rocks);
                int second = oneIn(12) ? random.nextInt(rocks) : from(first, rocks - 1);
                put("remain", from(0, oneIn(20) ? 11 : 9), "from", rockName(first), "to", rockName(second), ";");
            }
        }
    }

    private void tests(int depth) {
        test(depth);
        for (int n = oneIn(2) ? 0 : from(0, 3); n > 0; n--) {
            put(oneIn(2) ? "and" : "or");
            test(depth);
        }
    }

    private void test(int depth) {
        sum(depth);
        if (!oneIn(3)) {
            put(oneIn(2) ? "<" : "=");
            sum(depth);
        }
    }

    private void sum(int depth) {
        fact(depth);
        for (int n = oneIn(2) ? 0 : from(0, 2); n > 0; n--) {
            put(oneIn(2) ? "+" : "-");
            fact(depth);
        }
    }

    private void fact(int depth) {
        int deepest = oneIn(40) ? 5 : 3;
        int choice = random.nextInt(10);
        if (choice < 4 || depth >= deepest && choice > 7) {
            put(oneIn(8) ? from(0, 9999) : from(0, 9));
        } else if (choice < 8) {
            put(FACTS[random.nextInt(FACTS.length)]);
        } else if (choice == 8) {
            put("not");
            fact(depth + 1);
        } else {
            put("(");
            tests(depth + 1);
            put(")");
        }
    }

    private void spoil() {
        int at = random.nextInt(text.length());
        String word = WORDS[random.nextInt(WORDS.length)];
        switch (random.nextInt(6)) {
            case 0 -> text.deleteCharAt(at);
            case 1 -> text.insert(at, word);
            case 2 -> text.insert(at, " " + word + " ");
            case 3 -> text.setCharAt(at, (char) (oneIn(10) ? 10 : from(32, 126)));
            case 4 -> text.setLength(at);
            default -> swapToken(at, word);
        }
    }

    private void swapToken(int at, String word) {
        int start = at;
        int end = at + 1;
        while (start > 0 && Character.isLetterOrDigit(text.charAt(start - 1))) {
            start--;
        }
        while (end < text.length() && Character.isLetterOrDigit(text.charAt(end))) {
            end++;
        }
        text.replace(start, end, word);
    }

    private void held(String written) {
        LandSurvey quick = new LandSurvey();
        SlowSurvey slow = new SlowSurvey();
        for (int at = 0; at < written.length(); at += 24) {
            long a = Check.eight(written, at);
            long b = Check.eight(written, at + 8);
            long c = Check.eight(written, at + 16);
            check.same("feed", quick.feed(a, b, c), slow.feed(a, b, c));
        }
        check.same("rules of " + written, quick.rules(), slow.rules());
        check.same("rocks of " + written, quick.count(4), slow.count(4));
        check.same("tape behind " + written, quick.count(9), 0);
        for (int k = 0; k < 4; k++) {
            int kind = random.nextInt(5);
            int depth = kind < 2 ? 0 : from(0, 9);
            int hand = random.nextInt(6);
            int facts = random.nextInt(10000);
            check.same("sight", quick.sight(kind, k, 0, depth, hand, facts), slow.sight(kind, k, 0, depth, hand, facts));
            int number = k;
            for (int what : new int[] {0, 1, 5, 6, 7}) {
                check.same("look " + k + " " + what + " by " + written, answer(() -> quick.look(number, what)),
                    answer(() -> slow.look(number, what)));
            }
        }
        check.same("line by " + written, quick.line(0, 0, 1), slow.line(0, 0, 1));
    }

    private static int answer(Check.Call call) {
        try {
            return call.answer();
        } catch (NoSuchElementException e) {
            return THROWN;
        }
    }
}
