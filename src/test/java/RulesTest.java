/** The language of the rules: what reads without a fault, where each fault lies, what tests tell. */
public final class RulesTest {
    private static final Check CHECK = new Check();

    private RulesTest() {
    }

    public static void main(String[] args) {
        readsWell();
        misplaced();
        tokens();
        untold();
        toldAgain();
        amiss();
        tooMany();
        nesting();
        reserved();
        meaning();
        namesAndRanks();
        rockOrder();
        withoutSteepAndDrift();
        longText();
        CHECK.end("rules");
    }

    private static int read(String text) {
        LandSurvey x = new LandSurvey();
        Check.feed(x, text);
        int fault = x.rules();
        CHECK.same("the tape is empty behind '" + text + "'", x.count(9), 0);
        CHECK.same("rules of a day behind '" + text + "'", x.count(8), fault == 0 ? 1 : 0);
        return fault;
    }

    private static void well(String text) {
        CHECK.same("'" + text + "'", read(text), 0);
    }

    /** The fault is due where the sign | stands in the text. */
    private static void faulty(int kind, String marked) {
        int place = marked.indexOf('|');
        String text = marked.substring(0, place) + marked.substring(place + 1);
        CHECK.same("'" + marked + "'", read(text), kind + 16 * place);
    }

    private static void readsWell() {
        well("");
        well(" \n ");
        well("rock a 0 to 0;");
        well("rock\na\n0\nto\n200\n;\n");
        well("rock abcdefgh 200 to 200;name abcdefgh when 9999;");
        well("rock a0to0;rock b 007to 0200;");
        well("rock a 1 to 2; holds a; holds a; tight a; tight a; remain 0 from a to a; remain 9 from a to a;");
        well("steep 0; drift 0;");
        well("drift 99; steep 99;");
        well("rank 1 when 1; rank 99 when colour + grain - hard + fizz < kind - hand + depth or height = agree and apart;");
        well("draw full when same; draw broken when kept; draw dotted when not not 1;");
        well("rank 1 when (1)<(2);rank 1 when not(1=2)or 3;");
        well("rank 1 when 1or 2and 3;");
        well("rock a 0 to 1; rock b 0 to 1; remain 3 from a to b; name b when 1; rock c 0 to 1; name c when 0;");
    }

    private static void misplaced() {
        faulty(1, "|;");
        faulty(1, "|a");
        faulty(1, "|5");
        faulty(1, "|to");
        faulty(1, "|when");
        faulty(1, "|colour");
        faulty(1, "|not");
        faulty(1, "rock|");
        faulty(1, "rock  |");
        faulty(1, "rock |5");
        faulty(1, "rock |to");
        faulty(1, "rock a |;");
        faulty(1, "rock a |to 5;");
        faulty(1, "rock a 5 |5;");
        faulty(1, "rock a 5 to |a;");
        faulty(1, "rock a 5 to 5|");
        faulty(1, "rock a 5 to 5 |rock");
        faulty(1, "rock a 5 to 5; |;");
        faulty(1, "rock a 5 to 5; name |5 when 1;");
        faulty(1, "rock a 5 to 5; name |when 1;");
        faulty(1, "rock a 5 to 5; name a |1;");
        faulty(1, "rock a 5 to 5; name a when |;");
        faulty(1, "rank |a when 1;");
        faulty(1, "rank 5 |1;");
        faulty(1, "draw |when 1;");
        faulty(1, "draw |thick when 1;");
        faulty(1, "draw full |1;");
        faulty(1, "steep |;");
        faulty(1, "steep 5|");
        faulty(1, "drift |a;");
        faulty(1, "holds |5;");
        faulty(1, "tight |;");
        faulty(1, "rock a 5 to 5; holds a |a;");
        faulty(1, "remain |a");
        faulty(1, "remain 5 |to");
        faulty(1, "rock a 5 to 5; remain 5 from |5;");
        faulty(1, "rock a 5 to 5; remain 5 from a |from a;");
        faulty(1, "rock a 5 to 5; remain 5 from a to |;");
        faulty(1, "rock a 5 to 5; remain 5 from a to a|");
        faulty(1, "rank 5 when |+ 5;");
        faulty(1, "rank 5 when 1 + |;");
        faulty(1, "rank 5 when 1 |1;");
        faulty(1, "rank 5 when 1 < |< 2;");
        faulty(1, "rank 5 when 1 < 2 |< 3;");
        faulty(1, "rank 5 when 1 = 2 |< 3;");
        faulty(1, "rank 5 when 1 and |and 2;");
        faulty(1, "rank 5 when 1 or |;");
        faulty(1, "rank 5 when 1 |not 2;");
        faulty(1, "rank 5 when ( 1 |;");
        faulty(1, "rank 5 when 1 |) ;");
        faulty(1, "rank 5 when ( |) ;");
        faulty(1, "rank 5 when not |and ;");
        faulty(1, "rank 5 when |full;");
        faulty(1, "rank 5 when |a;");
        faulty(1, "rank 5 when |-1;");
        faulty(1, "rank 5 when 1|");
        faulty(1, "rank 5 when (1|");
    }

    private static void tokens() {
        faulty(1, "rock |abcdefghi 0 to 0;");
        faulty(1, "rock a |00000 to 0;");
        faulty(1, "rock a 0 to |12345;");
        faulty(1, "rock |A 0 to 0;");
        faulty(1, "rock a|* 0 to 0;");
        faulty(1, "rank 5 when 1 |> 0;");
        faulty(1, "rank 5 when 1 |, 0;");
        faulty(1, "|rockrockr a 0 to 0;");
        faulty(1, "|~");
        faulty(1, "|{rock}");
        faulty(4, "rock a |0999to 0;");
        faulty(1, "rock a 1|b to 0;");
        well("rock a1to2;");
    }

    private static void untold() {
        faulty(2, "name |a when 1;");
        faulty(2, "rock a 0 to 0; name |b when 1;");
        faulty(2, "rock a 0 to 0; name |aa when 1;");
        faulty(2, "holds |a; rock a 0 to 0;");
        faulty(2, "tight |a;");
        faulty(2, "remain 0 from |a to a;");
        faulty(2, "rock a 0 to 0; remain 0 from a to |b;");
    }

    private static void toldAgain() {
        faulty(3, "rock a 0 to 0; rock |a 0 to 0;");
        faulty(3, "steep 5; |steep 5;");
        faulty(3, "drift 5; steep 5; |drift 200;");
        faulty(3, "rock a 0 to 0; remain 7 from a to a; remain 6 from a to a; remain |7 from a to a;");
        faulty(3, "rock a 0 to 0; remain 7 from a to a; remain |0007 from a to a;");
        faulty(3, "steep 5; |steep");
    }

    private static void amiss() {
        faulty(4, "rock a |201 to 0;");
        faulty(4, "rock a 0 to |201;");
        faulty(4, "rock a 7 to |6;");
        faulty(4, "rank |0 when 1;");
        faulty(4, "rank |100 when 1;");
        faulty(4, "steep |100;");
        faulty(4, "drift |9999;");
        faulty(4, "remain |10 from a to a;");
        faulty(4, "rock a 0 to 0; rock b 0 to 0; remain 1 from b to |a;");
        well("rock a 7 to 7; rock b 0 to 0; remain 1 from b to b;");
    }

    private static String times(int n, String text) {
        return text.repeat(n);
    }

    private static void tooMany() {
        StringBuilder rocks = new StringBuilder();
        for (int r = 0; r < 10; r++) {
            rocks.append("rock ").append((char) ('a' + r)).append(" 0 to 1;");
        }
        well(rocks.toString());
        faulty(5, rocks + "|rock k 0 to 1;");
        faulty(5, rocks + "|rock a");
        String some = "rock a 0 to 1;" + times(8, "name a when 1;") + times(8, "rank 5 when 1;") + times(8, "draw full when 1;");
        well(some);
        faulty(5, some + "|name a when 1;");
        faulty(5, some + "|rank 5 when 1;");
        faulty(5, some + "|draw full when 1;");
        faulty(1, some + "|a");
        well(some + "steep 5; holds a;");
    }

    /** Any number of others, each a not or a ( ) as the bits of mix say, round the text. */
    private static String within(int others, int mix, String text) {
        StringBuilder opened = new StringBuilder();
        StringBuilder closed = new StringBuilder();
        for (int n = 0; n < others; n++) {
            boolean negated = (mix >> n & 1) != 0;
            opened.append(negated ? "not " : "(");
            closed.append(negated ? "" : ")");
        }
        return opened + text + closed;
    }

    private static void nesting() {
        String[] facts = {"0", "9999", "colour", "grain", "hard", "fizz", "kind", "hand", "depth", "height", "agree", "apart",
            "same", "kept"};
        String[] others = {";", ")", "and", "to", "when", "a", "<", "+", "*", "12345", "abcdefghi", "A"};
        for (int mix = 0; mix < 16; mix++) {
            for (String fact : facts) {
                well("rank 5 when " + within(mix & 3, mix, fact) + ";");
                well("rank 5 when " + within(3, mix, fact) + ";");
                faulty(5, "rank 5 when " + within(4, mix, "|" + fact) + ";");
            }
            faulty(5, "rank 5 when " + within(4, mix, "|not 1") + ";");
            faulty(5, "rank 5 when " + within(4, mix, "|(1)") + ";");
            for (String other : others) {
                faulty(1, "rank 5 when " + within(4, mix, "|" + other) + ";");
            }
            faulty(1, "rank 5 when " + within(4, mix | 15, "") + "|");
        }
        faulty(1, "rank 5 when ((((  |");
        nestingBesideOthers();
    }

    /** What stands beside a fact is no other that it stands within. */
    private static void nestingBesideOthers() {
        well("rank 5 when not(not 1) + (((2))) and not (not 1) or not not not 3 - (((4))) ;");
        well("rank 5 when (((1) + (2) < (3) - not 4) and (not 5 = (6) or (7)));");
        faulty(5, "rank 5 when ((((|(1)))));");
        faulty(5, "rank 5 when ((((|1 + ;");
        faulty(5, "rank 5 when not ( not ( |not 1 ) ) ;");
        faulty(5, "rank 5 when (((1 + not |2)));");
        faulty(5, "rank 5 when (((1))) < (((2 - (|3))));");
        faulty(5, "rank 5 when ( ( 1 ) and not ( not |( 1 ) ) ) ;");
        faulty(5, "rank 5 when not(not(|1)) ;");
        faulty(5, "rank 5 when 1 and 2 or ( 1 = not ( not |fizz ) ) ;");
        faulty(5, "rank 5 when 1 and 2 or ( ( 1 = not ( |not fizz ) ) ) ;");
        faulty(1, "rank 5 when (((1 |(2))));");
        faulty(4, "rank |0 when ((((1))));");
        LandSurvey x = Check.with("rock a 0 to 0; name a when not not not 0; rank 7 when (((1)));");
        x.sight(2, 0, 0, 0, 0, 0);
        CHECK.same("a fact within four", Check.rules(x, "rock b 0 to 0; rock c 0 to 0; name c when ((((1))));"), 5 + 16 * 46);
        CHECK.same("such rules are not in force", x.count(4), 1);
        CHECK.same("such rules are not in force", x.look(0, 0), 0);
        CHECK.same("such rules are not in force", x.look(0, 1), 7);
    }

    private static void reserved() {
        String[] words = {"rock", "to", "name", "when", "rank", "draw", "full", "broken", "dotted", "steep", "drift", "holds",
            "tight", "remain", "from", "and", "or", "colour", "grain", "hard", "fizz", "kind", "hand", "depth", "height",
            "agree", "apart", "same", "kept", "not"};
        for (String word : words) {
            faulty(1, "rock |" + word + " 0 to 0;");
            faulty(1, "holds |" + word + ";");
        }
        well("rock rocks 0 to 0; rock roc 0 to 0; rock e 0 to 0; rock test 0 to 0; rock fact 0 to 0; rock none 0 to 0;");
    }

    /** What a test tells of a sight with facts 1234, kind 3, hand 5, depth 60 in a cell of height 700. */
    private static void tells(String test, boolean due) {
        LandSurvey x = Check.with("rock a 0 to 0; name a when " + test + ";");
        x.cell(4, 4, 700, true);
        x.sight(3, 4, 4, 60, 5, 1234);
        CHECK.same(test, x.look(0, 0), due ? 0 : -1);
    }

    private static void meaning() {
        String[] yes = {"1", "colour = 1", "grain = 2", "hard = 3", "fizz = 4", "kind = 3", "hand = 5", "depth = 60",
            "height = 700", "agree = 0", "apart = 0", "same = 0", "kept = 0", "not 0", "not not 5 = 1", "2 < 3", "0 - 1",
            "1 - 2 - 3 = 0 - 4", "1 or 0 and 0 or 1", "5 and 7 = 7", "( 1 < 2 ) + ( 2 < 3 ) = 2", "not 0 + 1 = 2", "( 3 = 3 ) + 1 = 2", "( 0 or 5 ) + 1 = 2",
            "not ( 0 + 1 ) = 0", "9999 + 9999 - 9999 = 9999", "( 5 and 7 ) = 1", "( 0 or 7 ) = 1", "1 + 2 < 2 + 2", "0 - 5 < 0 - 4"};
        String[] no = {"0", "colour = 2", "1 or 1 and 0", "3 < 3", "3 < 2", "3 = 2", "1 and 0", "0 or 0", "not 1", "not 7",
            "5 and ( 7 = 6 )", "1 - 1", "agree", "apart", "same", "kept", "( 5 and 7 ) = 7"};
        for (String test : yes) {
            tells(test, true);
        }
        for (String test : no) {
            tells(test, false);
        }
    }

    private static void namesAndRanks() {
        LandSurvey x = Check.with("rock a 0 to 0; rock b 0 to 0; draw full when 1; name b when 0; rank 3 when hand < 2;"
            + "name b when hand = 1; name a when hand < 3; rank 4 when hand < 3;");
        for (int hand = 0; hand < 4; hand++) {
            x.sight(2, 0, 0, 0, hand, 0);
        }
        int[][] due = {{0, 3, 4}, {1, 3, 3}, {0, 4, 4}};
        for (int k = 0; k < 3; k++) {
            CHECK.same("rock of " + k, x.look(k, 0), due[k][0]);
            CHECK.same("worth of " + k, x.look(k, 1), due[k][1]);
            CHECK.same("line of " + k, x.look(k, 7), due[k][2]);
        }
        CHECK.same("none without one", x.look(3, 0), -1);
        CHECK.same("10 without one", x.look(3, 1), 10);
    }

    private static void rockOrder() {
        LandSurvey x = Check.with("rock zz 1 to 2; rock aa 3 to 5; rock mm 7 to 11; name zz when colour = 0; name aa when colour = 1;"
            + "name mm when colour = 2;");
        int[][] due = {{500 - 16 - 2, 500 - 10}, {500 - 11 - 5, 500 - 7}, {500 - 11, 500}};
        for (int k = 0; k < 3; k++) {
            x.sight(2, 0, 0, 0, 0, 1000 * k);
            CHECK.same("rock " + k, x.look(k, 0), k);
            CHECK.same("least " + k, x.look(k, 5), due[k][0]);
            CHECK.same("most " + k, x.look(k, 6), due[k][1]);
        }
    }

    private static void withoutSteepAndDrift() {
        LandSurvey x = Check.with("rock a 0 to 0; name a when 1;");
        x.sight(1, 0, 0, 0, 0, 0);
        CHECK.same("drift", x.look(0, 5), 480);
        CHECK.same("drift", x.look(0, 6), 520);
        CHECK.same("steep", x.base(0, 1, 0, 1), 530);
        LandSurvey y = Check.with("rock a 0 to 0; name a when 1; steep 0; drift 99;");
        y.sight(1, 0, 0, 0, 0, 0);
        CHECK.same("drift", y.look(0, 5), 401);
        CHECK.same("steep", y.base(0, 11, 7, 1), 599);
    }

    private static void longText() {
        StringBuilder text = new StringBuilder("rock a 0 to 0; name a when 0");
        for (int n = 0; text.length() < 1490; n++) {
            text.append(n % 2 == 0 ? "+1" : "-1");
        }
        String sum = text + ";";
        LandSurvey x = Check.with(sum);
        x.sight(2, 0, 0, 0, 0, 0);
        CHECK.same("a long sum", x.look(0, 0), sum.endsWith("+1;") ? 0 : -1);
        faulty(1, " ".repeat(1499) + "|x");
        faulty(1, "|" + "x".repeat(1500));
        faulty(1, "|" + "9".repeat(1500));
        faulty(1, "rank 5 when |" + "<".repeat(1400));
    }
}
