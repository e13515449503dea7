/** The edges that section 2 of the document names: the tape, tokens, rules, faults, days with rules. */
public final class RulesEdgesTest {
    private static final Check CHECK = new Check();
    private static final Sentences DOC = new Sentences("edges of the rules", CHECK);
    private static final String RULES = "2 RULES";
    private static final int TAPE = 1500;

    private RulesEdgesTest() {
    }

    public static void main(String[] args) {
        tape();
        tokens();
        forms();
        limits();
        faults();
        days();
        meaning();
        DOC.end();
    }

    private static void tape() {
        DOC.test(11, RULES, "The TAPE has at most 1,500 signs", RulesEdgesTest::fullTape);
        DOC.test(11, RULES, "The TAPE has at most 1,500 signs", RulesEdgesTest::firstSignsAreKept);
        DOC.test(11, RULES, "10 and 32 .. 126", RulesEdgesTest::everySign);
        DOC.test(12, RULES, "what reads it takes it: it is empty then", RulesEdgesTest::takenByReading);
        DOC.test(12, RULES, "what reads it takes it: it is empty then", RulesEdgesTest::takenWhenFull);
    }

    private static void tokens() {
        DOC.test(12, RULES, "TOKENS, each as long as can be", RulesEdgesTest::asLongAsCanBe);
        DOC.test(12, RULES, "blanks (10, 32) between where one likes", RulesEdgesTest::blanks);
        DOC.test(12, RULES, "WORDS (letters a .. z, 8 at most)", RulesEdgesTest::words);
        DOC.test(12, RULES, "NUMBERS (1 to 4 digits; a letter may stand right behind)", RulesEdgesTest::numbers);
        DOC.test(12, RULES, "the signs ( ) < = + - and the semicolon", RulesEdgesTest::otherSigns);
        DOC.test(12, RULES, "All else (a longer WORD or NUMBER, too, at its first sign) is none", RulesEdgesTest::longerOnes);
    }

    private static void forms() {
        DOC.test(12, RULES, "RULES: any number of", RulesEdgesTest::anyNumber);
        String[] all = {"rock NAME N to N ;", "name NAME when E ;", "rank N when E ;", "draw full when E ;", "draw broken when E ;",
            "draw dotted when E ;", "steep N ;", "drift N ;", "holds NAME ;", "tight NAME ;", "remain N from NAME to NAME ;"};
        for (String form : all) {
            DOC.test(12, RULES, form, () -> form(form));
        }
        DOC.test(12, RULES, "E: TEST { and TEST or or TEST }", RulesEdgesTest::tests);
        DOC.test(12, RULES, "TEST: SUM [ < SUM or = SUM ]", RulesEdgesTest::sums);
        DOC.test(12, RULES, "SUM: FACT { + or - FACT }", RulesEdgesTest::factsInSums);
        DOC.test(12, RULES, "FACT: N, colour, grain, hard, fizz, kind, hand, depth, height, agree, apart, same, kept, not FACT, ( E )",
            RulesEdgesTest::factsAlone);
        DOC.test(12, RULES, "4 of not and ( ) within one another", RulesEdgesTest::withinOneAnother);
    }

    private static void limits() {
        DOC.test(12, RULES, "from the youngest (0) to the oldest, 10 at most", RulesEdgesTest::tenRocks);
        DOC.test(12, RULES, "with its thickness from .. to, 0 to 200 each, not from above to", RulesEdgesTest::thickness);
        DOC.test(12, RULES, "NAME elsewhere: of a rock that was told ahead", RulesEdgesTest::toldAhead);
        DOC.test(12, RULES, "name, rank and draw: 24 lines together", RulesEdgesTest::lines);
        DOC.test(12, RULES, "N of rank 1 to 99", RulesEdgesTest::ranks);
        DOC.test(12, RULES, "steep and drift 0 to 99, each once (10 and 20 without)", RulesEdgesTest::steepAndDrift);
        DOC.test(12, RULES, "steep and drift 0 to 99, each once (10 and 20 without)", RulesEdgesTest::withoutSteepAndDrift);
        DOC.test(12, RULES, "remain: 0 to 9, each once, from a rock to one that is not younger", RulesEdgesTest::remains);
        DOC.test(12, RULES, "NAMES are other WORDS than all that stand above", RulesEdgesTest::names);
    }

    private static void faults() {
        DOC.test(12, RULES, "kind + 16 * the place (from 0) of a token", RulesEdgesTest::places);
        DOC.test(12, RULES, "the end being one at the text's length", RulesEdgesTest::endOfText);
        DOC.test(12, RULES, "of the first token from the left that is wrong", RulesEdgesTest::firstWrongOne);
        DOC.test(12, RULES, "the least: 1 it is none, or can't stand there", RulesEdgesTest::leastOfTwo);
        DOC.test(12, RULES, "1 it is none, or can't stand there", RulesEdgesTest::noneOrMisplaced);
        DOC.test(12, RULES, "2 a NAME that is not told", RulesEdgesTest::untold);
        DOC.test(12, RULES, "3 a rock's NAME that is told, the words steep, drift, or N of a remain told again", RulesEdgesTest::toldAgain);
        DOC.test(12, RULES, "4 a NUMBER that is not as told (a thickness to below its from, too)", RulesEdgesTest::numbersAmiss);
        DOC.test(12, RULES, "the second NAME of remain that is younger than the first", RulesEdgesTest::secondName);
        DOC.test(12, RULES, "5 one too many: the words rock, name, rank, draw", RulesEdgesTest::oneTooMany);
        DOC.test(12, RULES, "not, or a FACT, within 4 others", RulesEdgesTest::oneTooDeep);
    }

    private static void days() {
        DOC.test(12, RULES, "in force from the DAY NOW on", RulesEdgesTest::fromNowOn);
        DOC.test(12, RULES, "(in place of those read on the same DAY)", RulesEdgesTest::inPlace);
        DOC.test(12, RULES, "RULES without a FAULT are in force", RulesEdgesTest::notWithAFault);
        DOC.test(12, RULES, "of 8 DAYS at most (-1 then, the TAPE is empty)", RulesEdgesTest::eightDays);
        DOC.test(12, RULES, "of 8 DAYS at most (-1 then, the TAPE is empty)", RulesEdgesTest::eighthDayAgain);
        DOC.test(12, RULES, "without any there is no rock", RulesEdgesTest::withoutAny);
    }

    private static void meaning() {
        DOC.test(15, RULES, "that of the first name line whose E is not 0", RulesEdgesTest::firstName);
        DOC.test(15, RULES, "height: of its CELL", RulesEdgesTest::heightOfItsCell);
        DOC.test(15, RULES, "agree, apart, same, kept: 0", RulesEdgesTest::factsOfLines);
        DOC.test(15, RULES, "not: 1 of 0, else 0", RulesEdgesTest::negated);
        DOC.test(15, RULES, "\"and\", \"or\", <, = tell 1 or 0", RulesEdgesTest::oneOrZero);
        DOC.test(15, RULES, "and, or in E go from the left alike", RulesEdgesTest::fromTheLeft);
        DOC.test(15, RULES, "N of the first rank line whose E is not 0, else 10", RulesEdgesTest::worth);
        DOC.test(15, RULES, "if its ROCK is not one from the first to the second rock of that REMAIN", RulesEdgesTest::ages);
        DOC.test(15, RULES, "AGES QUARREL in a SIGHT with a ROCK and a REMAIN that THE RULES tell and that was not washed in",
            RulesEdgesTest::agesOfNone);
    }

    private static int read(String text) {
        return Check.rules(new LandSurvey(), text);
    }

    private static void well(String text) {
        CHECK.same("'" + text + "'", read(text), 0);
    }

    /** The fault is due where the sign | stands in the text. */
    private static void faulty(int kind, String marked) {
        int place = marked.indexOf('|');
        String text = marked.substring(0, place) + marked.substring(place + 1);
        CHECK.same("'" + marked + "'", read(text), kind + 16 * place);
    }

    private static String rocks(int many) {
        StringBuilder text = new StringBuilder();
        for (int r = 0; r < many; r++) {
            text.append("rock ").append((char) ('a' + r)).append(" 0 to 1;");
        }
        return text.toString();
    }

    private static String padded(int length, String text) {
        return " ".repeat(length - text.length()) + text;
    }

    private static void fullTape() {
        LandSurvey x = new LandSurvey();
        CHECK.same("1499", Check.feed(x, " ".repeat(1499)), 1499);
        CHECK.same("1500", Check.feed(x, " "), 1500);
        CHECK.same("1501", Check.feed(x, " "), 1500);
        CHECK.same("24 more", x.feed(0x2020202020202020L, 0x2020202020202020L, 0x2020202020202020L), 1500);
        CHECK.same("none more", x.feed(0, 0, 0), 1500);
        CHECK.same("on the tape", x.count(9), 1500);
        LandSurvey y = new LandSurvey();
        CHECK.same("1501 at once", Check.feed(y, " ".repeat(1501)), 1500);
        LandSurvey z = new LandSurvey();
        Check.feed(z, " ".repeat(1480));
        CHECK.same("24 where 20 have room", Check.feed(z, " ".repeat(24)), 1500);
    }

    private static void firstSignsAreKept() {
        LandSurvey x = new LandSurvey();
        Check.feed(x, padded(1490, "steep 5;"));
        CHECK.same("the last ten and two", Check.feed(x, " drift 7;  *"), 1500);
        CHECK.same("what is beyond is not read", x.rules(), 0);
        LandSurvey y = new LandSurvey();
        Check.feed(y, " ".repeat(1499) + "*");
        CHECK.same("the last one is read", y.rules(), 1 + 16 * 1499);
        LandSurvey z = new LandSurvey();
        Check.feed(z, padded(1499, "steep 5"));
        Check.feed(z, "55;");
        CHECK.same("a number that is cut off", z.rules(), 1 + 16 * 1500);
    }

    private static void everySign() {
        for (int sign = 0; sign < 256; sign++) {
            boolean due = sign == 10 || sign >= 32 && sign <= 126;
            LandSurvey x = new LandSurvey();
            CHECK.same("sign " + sign, x.feed((long) sign << 56, 0, 0), due ? 1 : 0);
            CHECK.same("sign " + sign, x.feed(0, 0, sign), due ? 2 : 0);
            long eight = 0x0101010101010101L * sign;
            CHECK.same("sign " + sign + " all over", x.feed(eight, eight, eight), due ? 26 : 0);
        }
    }

    private static void takenByReading() {
        LandSurvey x = new LandSurvey();
        CHECK.same("read well", Check.rules(x, "steep 5;"), 0);
        CHECK.same("empty", x.count(9), 0);
        CHECK.same("a fault", Check.rules(x, "steep 5; steep"), 3 + 16 * 9);
        CHECK.same("empty", x.count(9), 0);
        CHECK.same("from the first sign again", Check.feed(x, "drift"), 5);
        CHECK.same("nothing is left of it", x.rules(), 1 + 16 * 5);
        CHECK.same("an empty one", x.rules(), 0);
        for (int day = 1; day < 8; day++) {
            x.days(1);
            CHECK.same("on day " + day, Check.rules(x, "steep 5;"), 0);
        }
        x.days(1);
        CHECK.same("those of 8 days are there", Check.rules(x, "steep 5;"), -1);
        CHECK.same("empty", x.count(9), 0);
        CHECK.same("an empty one", x.rules(), -1);
    }

    private static void takenWhenFull() {
        LandSurvey x = new LandSurvey();
        Check.feed(x, "*".repeat(TAPE));
        CHECK.same("a full one", x.rules(), 1);
        CHECK.same("has room for all again", Check.feed(x, " ".repeat(TAPE)), TAPE);
        CHECK.same("a full one of blanks", x.rules(), 0);
        CHECK.same("empty", x.count(9), 0);
    }

    private static void asLongAsCanBe() {
        faulty(1, "|steepsteep 5;");
        faulty(1, "|rocka 0 to 0;");
        faulty(2, "rock a 0 to 0; name |ab when 1;");
        faulty(1, "rank 5 when 1 |orr 1;");
        faulty(1, "rank 5 when |notnot 1;");
        faulty(4, "steep |100;");
        faulty(1, "steep |10000;");
        well("rank 5 when 1<2;");
        well("rank 5 when((1)=(2));");
        well("rank 5 when 1+1-1<1;rank 5 when not(1)or(2)and 3;");
    }

    private static void blanks() {
        String[] tokens = {"rock", "a", "0", "to", "5", ";", "rank", "5", "when", "not", "(", "1", "+", "2", ")", "<", "3", ";"};
        String[] between = {" ", "\n", "  ", "\n\n", " \n", "\n "};
        for (String blank : between) {
            well(String.join(blank, tokens));
            well(blank + String.join(blank, tokens) + blank);
        }
        well("rock a0to5;rank5when not(1+2)<3;");
        faulty(1, "|ro ck a 0 to 0;");
        faulty(1, "rock a 1 |2 to 20;");
        faulty(1, "rock a |t o 20;");
        // a tab never comes on the tape, so what stands beside it is one word
        faulty(1, "|rock\ta 0 to 0;");
        LandSurvey x = new LandSurvey();
        CHECK.same("without the tab", Check.feed(x, "rock\ta"), 5);
    }

    private static void words() {
        for (int length = 1; length <= 8; length++) {
            well("rock " + "z".repeat(length) + " 0 to 0; holds " + "z".repeat(length) + ";");
        }
        for (int length = 9; length <= 17; length++) {
            faulty(1, "rock |" + "z".repeat(length) + " 0 to 0;");
        }
        StringBuilder all = new StringBuilder();
        for (char letter = 'a'; letter <= 'z'; letter++) {
            well("rock " + letter + " 0 to 0; tight " + letter + ";");
            faulty(1, "rock |" + (char) (letter - 32) + " 0 to 0;");
            faulty(1, "rock a|" + (char) (letter - 32) + " 0 to 0;");
            all.append(letter);
        }
        faulty(1, "rock |" + all + " 0 to 0;");
        well("rock abcdefgh 0 to 0; rock abcdefgi 0 to 0; rock bbcdefgh 0 to 0; holds abcdefgi;");
        faulty(2, "rock abcdefgh 0 to 0; holds |abcdefg;");
        faulty(2, "rock abcdefg 0 to 0; holds |abcdefgh;");
        faulty(3, "rock abcdefgh 0 to 0; rock |abcdefgh 0 to 0;");
    }

    private static void numbers() {
        String[] fives = {"5", "05", "005", "0005"};
        for (String five : fives) {
            well("rank " + five + " when " + five + "or 1;");
            well("rock a " + five + "to " + five + ";");
        }
        faulty(1, "rank |00005 when 1;");
        faulty(4, "rank |9999 when 1;");
        faulty(1, "rank |10000 when 1;");
        faulty(1, "rank |99999999999999999999 when 1;");
        faulty(1, "rank |4294967301 when 1;");
        faulty(1, "rank |18446744073709551621 when 1;");
        faulty(1, "rank 5 when |00000;");
        well("rank 5 when 9999;");
        well("rank 5when 1and 2or 3;");
        faulty(1, "rock a 5|b to 5;");
        faulty(1, "rank |five when 1;");
        faulty(1, "rank |-5 when 1;");
        faulty(1, "rank |+5 when 1;");
    }

    private static void otherSigns() {
        for (char sign = 33; sign <= 126; sign++) {
            boolean letter = sign >= 'a' && sign <= 'z';
            boolean digit = sign >= '0' && sign <= '9';
            boolean told = "()<=+-;".indexOf(sign) >= 0;
            if (!letter && !digit) {
                faulty(1, "|" + sign);
                faulty(1, "steep |" + sign + " 5;");
                faulty(1, "steep 5;|" + sign);
            }
            if (!letter && !digit && !told) {
                faulty(1, "rank 5 when 1 |" + sign + " 1;");
                faulty(1, "rank 5 when |" + sign + "1;");
                faulty(1, "rank 5 when 1|" + sign + "1;");
            }
        }
        well("rank 5 when (1) < 2; rank 5 when 1 = 1; rank 5 when 1 + 1 - 1;");
    }

    private static void longerOnes() {
        faulty(1, "|rockrockr");
        faulty(1, "  |abcdefghi a 0 to 0;");
        faulty(1, "steep |12345");
        faulty(1, "rank 5 when 1 |aaaaaaaaa 1;");
        faulty(1, "rank 5 when 1 + |11111;");
        faulty(1, "|" + "a".repeat(TAPE));
        faulty(1, "|" + "1".repeat(TAPE));
        faulty(1, "steep |" + "1".repeat(TAPE - 6));
        // numbers that are too long, but worth as much as the signs ( + - < = ;
        faulty(1, "rank 5 when |00040 1 );");
        faulty(1, "rank 5 when 1 |00043 1;");
        faulty(1, "rank 5 when 1 |00045 1;");
        faulty(1, "rank 5 when 1 |00060 1;");
        faulty(1, "rank 5 when 1 |00061 1;");
        faulty(1, "steep 5 |00059");
        // the end of a word of eight letters and of a number of four is no sign of the next one
        well("rank 0005when 1;rock abcdefgh0000to0001;");
    }

    private static void anyNumber() {
        well("");
        well("\n");
        well("steep 5;");
        well(rocks(10) + "holds a;".repeat(100) + "tight b;".repeat(60));
        LandSurvey x = new LandSurvey();
        CHECK.same("none", x.rules(), 0);
        CHECK.same("a day with rules", x.count(8), 1);
        String most = "rock a0to0;" + "holds a;".repeat(186);
        CHECK.same("its length", most.length(), 1499);
        well(most);
    }

    /** Each token of a form is left out with all behind it, and put by others. */
    private static void form(String form) {
        String ahead = "rock a 0 to 5; rock b 0 to 5; ";
        String[] tokens = form.split(" ");
        String[] usual = new String[tokens.length];
        for (int n = 0; n < tokens.length; n++) {
            usual[n] = usualToken(tokens[n], form.startsWith("rock"));
        }
        well(ahead + String.join(" ", usual));
        well(ahead + String.join("\n", usual) + " steep 3;".repeat(form.startsWith("steep") ? 0 : 1));
        StringBuilder so = new StringBuilder(ahead);
        for (int n = 0; n < tokens.length; n++) {
            if (n > 0) {
                faulty(1, so + "|");
                faulty(1, so.toString().stripTrailing() + "|");
            }
            probe(so.toString(), tokens[n], form.startsWith("rock"));
            so.append(usual[n]).append(' ');
        }
    }

    private static String usualToken(String token, boolean rock) {
        switch (token) {
            case "NAME": return rock ? "zz" : "a";
            case "N": return "5";
            case "E": return "colour";
            default: return token;
        }
    }

    private static void probe(String ahead, String token, boolean rock) {
        String[] others = {"zz", "a", "5", ";", "(", ")", "<", "=", "+", "-", "to", "from", "when", "full", "colour", "not", "and", "*"};
        for (String other : others) {
            int due = 1;
            if (token.equals("NAME") && other.equals("zz")) {
                due = rock ? 0 : 2;
            } else if (token.equals("NAME") && other.equals("a")) {
                due = rock ? 3 : 0;
            } else if (token.equals("N") && other.equals("5") || token.equals(other)) {
                due = 0;
            } else if (token.equals("E") && (other.equals("5") || other.equals("colour") || other.equals("(") || other.equals("not"))) {
                due = 0;
            } else if (token.equals(";") && ahead.contains("when") && "<=+-andor".contains(other)) {
                due = 0;
            } else if (other.equals("full") && (token.equals("broken") || token.equals("dotted"))) {
                due = 0;
            }
            if (due != 0) {
                faulty(due, ahead + "|" + other);
                faulty(due, ahead + "|" + other + " ;");
            }
        }
    }

    private static void tests() {
        well("rank 5 when 1 and 1 or 1 and 1 or 1;");
        faulty(1, "rank 5 when |and 1;");
        faulty(1, "rank 5 when |or 1;");
        faulty(1, "rank 5 when 1 and |;");
        faulty(1, "rank 5 when 1 or |or 1;");
        faulty(1, "rank 5 when 1 and |");
        faulty(1, "rank 5 when 1 or|");
        well("rank 5 when 1" + " or 1".repeat(290) + ";");
    }

    private static void sums() {
        well("rank 5 when 1 < 1;");
        well("rank 5 when 1 = 1;");
        faulty(1, "rank 5 when 1 < 1 |< 1;");
        faulty(1, "rank 5 when 1 < 1 |= 1;");
        faulty(1, "rank 5 when 1 = 1 |< 1;");
        faulty(1, "rank 5 when 1 = 1 |= 1;");
        faulty(1, "rank 5 when |< 1;");
        faulty(1, "rank 5 when |= 1;");
        faulty(1, "rank 5 when 1 <|");
        faulty(1, "rank 5 when 1 =|= 1;");
        well("rank 5 when (1 < 1) < 1;");
        well("rank 5 when 1 < 1 and 1 = 1 or 1 < 1;");
    }

    private static void factsInSums() {
        well("rank 5 when 1 + 1 - 1 + 1 < 1 - 1;");
        well("rank 5 when 1" + "+1-1".repeat(370) + ";");
        faulty(1, "rank 5 when |+ 1;");
        faulty(1, "rank 5 when |- 1;");
        faulty(1, "rank 5 when 1 + |+ 1;");
        faulty(1, "rank 5 when 1 - |- 1;");
        faulty(1, "rank 5 when 1 +|");
        faulty(1, "rank 5 when 1 - |;");
        faulty(1, "rank 5 when 1 + |< 1;");
        faulty(1, "rank 5 when 1 |1;");
    }

    private static void factsAlone() {
        String[] facts = {"0", "9999", "colour", "grain", "hard", "fizz", "kind", "hand", "depth", "height", "agree", "apart", "same",
            "kept", "not 1", "not not 1", "( 1 )", "( 1 < 1 and 1 )"};
        for (String fact : facts) {
            well("rank 5 when " + fact + ";");
            well("draw full when " + fact + " + " + fact + " = " + fact + " or " + fact + ";");
        }
        String[] others = {"rock", "to", "name", "when", "rank", "draw", "full", "broken", "dotted", "steep", "drift", "holds", "tight",
            "remain", "from", "and", "or", "a", "zz"};
        for (String other : others) {
            faulty(1, "rock a 0 to 0; rank 5 when |" + other + ";");
            faulty(1, "rock a 0 to 0; rank 5 when not |" + other + ";");
        }
        faulty(1, "rank 5 when (|);");
        faulty(1, "rank 5 when (1|;");
        faulty(1, "rank 5 when (1 |(1));");
        faulty(1, "rank 5 when 1|);");
        faulty(1, "rank 5 when not |;");
        faulty(1, "rank 5 when not|");
        faulty(1, "rank 5 when (|");
    }

    private static void withinOneAnother() {
        String[] openers = {"not ", "("};
        for (int mix = 0; mix < 8; mix++) {
            StringBuilder opened = new StringBuilder();
            StringBuilder closed = new StringBuilder();
            for (int n = 0; n < 3; n++) {
                opened.append(openers[mix >> n & 1]);
                closed.append((mix >> n & 1) == 1 ? ")" : "");
            }
            well("rank 5 when " + opened + "1" + closed + ";");
            well("rank 5 when " + opened + "1" + closed + " + " + opened + "fizz" + closed + ";");
            faulty(5, "rank 5 when " + opened + "(|1)" + closed + ";");
            faulty(5, "rank 5 when " + opened + "not |1" + closed + ";");
        }
    }

    private static void tenRocks() {
        well(rocks(10));
        faulty(5, rocks(10) + "|rock k 0 to 1;");
        LandSurvey x = Check.with(rocks(10) + "name a when colour = 0; name j when colour = 9;");
        CHECK.same("ten", x.count(4), 10);
        x.sight(2, 0, 0, 0, 0, 0);
        x.sight(2, 0, 0, 0, 0, 9000);
        CHECK.same("the youngest", x.look(0, 0), 0);
        CHECK.same("the oldest", x.look(1, 0), 9);
        CHECK.same("on nine others", x.look(0, 5), 490);
        CHECK.same("on none", x.look(1, 5), 499);
        CHECK.same("one too many is not told", Check.rules(x, rocks(10) + "rock k 0 to 1;"), 5 + 16 * rocks(10).length());
        CHECK.same("ten still", x.count(4), 10);
    }

    private static void thickness() {
        well("rock a 0 to 0;");
        well("rock a 0 to 200;");
        well("rock a 200 to 200;");
        well("rock a 199 to 200;");
        faulty(4, "rock a |201 to 200;");
        faulty(4, "rock a |201 to 201;");
        faulty(4, "rock a 0 to |201;");
        faulty(4, "rock a |9999 to 9999;");
        faulty(4, "rock a 1 to |0;");
        faulty(4, "rock a 200 to |199;");
        faulty(4, "rock a 200 to |201;");
        well("rock a 7 to 7;");
        LandSurvey x = Check.with("rock a 0 to 0; rock b 200 to 200; rock c 0 to 200; name a when 1;");
        x.sight(2, 0, 0, 0, 0, 0);
        CHECK.same("at least", x.look(0, 5), 500 - 400);
        CHECK.same("at most", x.look(0, 6), 500 - 200);
    }

    private static void toldAhead() {
        String[] uses = {"name |a when 1;", "holds |a;", "tight |a;", "remain 1 from |a to a;"};
        for (String use : uses) {
            faulty(2, use);
            faulty(2, use + " rock a 0 to 0;");
            faulty(2, "rock b 0 to 0; " + use);
            well("rock a 0 to 0; " + use.replace("|", ""));
        }
        faulty(2, "rock a 0 to 0; remain 1 from a to |b; rock b 0 to 0;");
        // names of the rules ahead of these are not told in these
        LandSurvey x = Check.with("rock a 0 to 0;");
        CHECK.same("a name of other rules", Check.rules(x, "holds a;"), 2 + 16 * 6);
        x.days(1);
        CHECK.same("a name of other rules", Check.rules(x, "holds a;"), 2 + 16 * 6);
    }

    private static void lines() {
        String[] kinds = {"name a when 1;", "rank 5 when 1;", "draw full when 1;"};
        String rock = "rock a 0 to 0;";
        for (String one : kinds) {
            well(rock + one.repeat(24));
            for (String other : kinds) {
                faulty(5, rock + one.repeat(24) + "|" + other);
                faulty(5, rock + one.repeat(23) + other + "|" + one);
                well(rock + one.repeat(23) + other);
            }
            well(rock + one.repeat(24) + "steep 5; drift 5; holds a; tight a; remain 0 from a to a; rock b 0 to 0;");
        }
        LandSurvey x = Check.with(rock + "name a when 0;".repeat(11) + "rank 5 when 0;".repeat(12) + "name a when 1;");
        x.sight(2, 0, 0, 0, 0, 0);
        CHECK.same("the last line of all", x.look(0, 7), 23);
    }

    private static void ranks() {
        int[] taken = {1, 2, 98, 99};
        for (int n : taken) {
            LandSurvey x = new LandSurvey();
            CHECK.same("rank " + n, Check.rules(x, "rank " + n + " when 1;"), 0);
            x.sight(2, 0, 0, 0, 0, 0);
            CHECK.same("worth " + n, x.look(0, 1), n);
        }
        int[] refused = {0, 100, 101, 9999};
        for (int n : refused) {
            faulty(4, "rank |" + n + " when 1;");
        }
        faulty(4, "rank |0000 when 1;");
    }

    private static void steepAndDrift() {
        String[] words = {"steep", "drift"};
        for (String word : words) {
            int[] taken = {0, 1, 98, 99};
            for (int n : taken) {
                well(word + " " + n + ";");
                LandSurvey x = Check.with("rock a 0 to 0; name a when 1; steep 0; drift 0;".replace(word + " 0", word + " " + n));
                x.sight(1, 0, 0, 0, 0, 0);
                CHECK.same(word + " " + n, x.base(0, 1, 0, 1), 500 + n);
            }
            int[] refused = {100, 101, 9999};
            for (int n : refused) {
                faulty(4, word + " |" + n + ";");
            }
            faulty(3, word + " 5; |" + word + " 5;");
            faulty(3, word + " 0; |" + word + " 0;");
            faulty(3, word + " 10; |" + word + " 100;");
        }
        well("steep 5; drift 5;");
        well("drift 5; steep 5;");
        // told once in each rules, whatever others say
        LandSurvey x = Check.with("steep 5; drift 5;");
        CHECK.same("again in other rules", Check.rules(x, "steep 5; drift 5;"), 0);
    }

    private static void withoutSteepAndDrift() {
        LandSurvey x = Check.with("rock a 0 to 0; name a when 1;");
        x.sight(1, 0, 0, 0, 0, 0);
        CHECK.same("drift at least", x.look(0, 5), 480);
        CHECK.same("drift at most", x.look(0, 6), 520);
        CHECK.same("steep", x.base(0, 1, 0, 1), 530);
        CHECK.same("steep", x.base(0, 1, 0, 0), 470);
        // those of rules that are in force no more are not those of these
        LandSurvey y = Check.with("rock a 0 to 0; name a when 1; steep 3; drift 4;");
        y.days(1);
        Check.rules(y, "rock a 0 to 0; name a when 1;");
        y.sight(1, 0, 0, 0, 0, 0);
        CHECK.same("without again", y.base(0, 1, 0, 1), 530);
        // with no rules at all: round one side the land bends by three times steep
        LandSurvey z = new LandSurvey();
        z.fault(5, 3, true, 1, 30, 30, 1);
        z.fault(5, 3, true, 1, 31, 31, 1);
        CHECK.same("three times 10", z.cost(1), 1);
        CHECK.same("one more", z.cost(2), -1);
    }

    private static void remains() {
        for (int n = 0; n <= 9; n++) {
            well("rock a 0 to 0; remain " + n + " from a to a;");
            faulty(3, "rock a 0 to 0; remain " + n + " from a to a; remain |" + n + " from a to a;");
        }
        faulty(4, "rock a 0 to 0; remain |10 from a to a;");
        faulty(4, "rock a 0 to 0; remain |9999 from a to a;");
        StringBuilder all = new StringBuilder("rock a 0 to 0;");
        for (int n = 0; n <= 9; n++) {
            all.append("remain ").append(n).append(" from a to a;");
        }
        well(all.toString());
        String two = "rock a 0 to 0; rock b 0 to 0; rock c 0 to 0; ";
        well(two + "remain 0 from a to a; remain 1 from a to b; remain 2 from a to c; remain 3 from b to c; remain 4 from c to c;");
        faulty(4, two + "remain 0 from b to |a;");
        faulty(4, two + "remain 0 from c to |b;");
        faulty(4, two + "remain 0 from c to |a;");
    }

    private static void names() {
        String[] words = {"rock", "to", "name", "when", "rank", "draw", "full", "broken", "dotted", "steep", "drift", "holds",
            "tight", "remain", "from", "and", "or", "colour", "grain", "hard", "fizz", "kind", "hand", "depth", "height",
            "agree", "apart", "same", "kept", "not"};
        for (String word : words) {
            faulty(1, "rock |" + word + " 0 to 0;");
            faulty(1, "name |" + word + " when 1;");
            faulty(1, "holds |" + word + ";");
            faulty(1, "tight |" + word + ";");
            faulty(1, "remain 0 from |" + word + " to a;");
            faulty(1, "rock a 0 to 0; remain 0 from a to |" + word + ";");
            if (word.length() < 8) {
                well("rock " + word + "x 0 to 0;");
            }
            well("rock x" + word.substring(1) + " 0 to 0;");
        }
        well("rock e 0 to 0; rock n 0 to 0; rock test 0 to 0; rock sum 0 to 0; rock fact 0 to 0; rock rules 0 to 0;");
    }

    private static void places() {
        int[] lengths = {0, 1, 15, 16, 255, 256, 1023, 1024, 1498, 1499};
        for (int place : lengths) {
            CHECK.same("at " + place, read(" ".repeat(place) + "*"), 1 + 16 * place);
        }
        faulty(1, "\n\n|x");
        faulty(2, padded(1499, "name ") + "|a");
        faulty(3, padded(1495, "steep 5;") + "|steep");
        faulty(4, padded(1497, "rank ") + "|100");
        faulty(5, padded(1499, "rank 5 when ((((") + "|1");
        faulty(5, padded(1497, "rank 5 when not not not not ") + "|not");
        faulty(5, padded(1499, "rank 5 when not not not not ") + "|(");
        faulty(5, padded(1496, rocks(10)) + "|rock");
    }

    private static void endOfText() {
        faulty(1, "rock|");
        faulty(1, "rock |");
        faulty(1, "rock \n\n |");
        faulty(1, "steep 5|");
        faulty(1, "rank 5 when 1 and|");
        CHECK.same("at 1500", read(padded(1500, "steep 5")), 1 + 16 * 1500);
        CHECK.same("at 1500", read("steep" + " ".repeat(1495)), 1 + 16 * 1500);
        CHECK.same("at 1499", read(padded(1499, "steep 5")), 1 + 16 * 1499);
        CHECK.same("the end may stand behind a rule", read(padded(1500, "steep 5;")), 0);
        CHECK.same("signs that are left out have no place", Check.rules(new LandSurvey(), "st\teep\r "), 1 + 16 * 6);
    }

    private static void firstWrongOne() {
        faulty(1, "rock |* 201 to 0; steep 100;");
        faulty(4, "rock a |201 to *;");
        faulty(2, "name |a when * ;");
        faulty(3, "steep 5; |steep 100 100;");
        faulty(4, "steep |100; steep 5;");
        faulty(5, "rank 5 when ((((|1 *");
        faulty(1, "rank 5 when |* ((((1");
        faulty(4, "rock a 0 to 0; rock b 0 to 0; remain |10 from zz to a;");
        faulty(2, "rock a 0 to 0; rock b 0 to 0; remain 1 from |zz to a *");
        faulty(4, "rock a 0 to 0; rock b 0 to 0; remain 1 from b to |a *");
        faulty(4, "rock a 5 to |4 4;");
        faulty(3, "rock a 5 to 5; rock |a 201 to 0;");
        faulty(5, rocks(10) + "|rock a 201 to 0;");
    }

    /** A word, a name or a number that would be wrong by another kind, too, where it can't stand at all. */
    private static void leastOfTwo() {
        String full = "rock a 0 to 1;" + "rank 5 when 1;".repeat(24);
        faulty(1, full + "steep |name");
        faulty(1, full + "|when");
        faulty(1, rocks(10) + "holds |rock");
        faulty(1, rocks(10) + "rank 5 when |rock");
        faulty(1, "steep 5; drift |steep 5;");
        faulty(1, "steep 5; rank 5 when |steep;");
        faulty(1, "drift 5; holds |drift;");
        faulty(1, "rock a 0 to 0; rock b 0 to |a;");
        faulty(1, "rock a 0 to 0; |a");
        faulty(1, "rank 5 when |zz;");
        faulty(1, "rock |9999 0 to 0;");
        faulty(1, "rank 5 |9999;");
        faulty(1, "|9999");
        faulty(1, "rank 5 when (((1 |not 1)));");
        faulty(1, "rank 5 when (((1 |(1))));");
        faulty(1, "rock a 0 to 0; remain 1 from a to a; remain 2 from |1 to a;");
        faulty(1, "rank 5 when ((((|;");
        faulty(1, "rank 5 when ((((|zz");
        faulty(1, "rank 5 when ((((|)");
    }

    private static void noneOrMisplaced() {
        faulty(1, "|*");
        faulty(1, "|;");
        faulty(1, "steep 5;|;");
        faulty(1, "steep 5;|5");
        faulty(1, "steep 5;|)");
        faulty(1, "steep 5;|~");
        faulty(1, "|to");
        faulty(1, "|zz");
        faulty(1, "steep 5; |zz");
        faulty(1, "steep|");
    }

    private static void untold() {
        faulty(2, "name |a");
        faulty(2, "holds |a");
        faulty(2, "tight |a");
        faulty(2, "remain 0 from |a");
        faulty(2, "rock b 0 to 0; remain 0 from b to |a");
        faulty(2, "name\n|a");
        faulty(2, "rock aa 0 to 0; rock aaaa 0 to 0; name |aaa when 1;");
        faulty(2, "rock a 0 to 0; name |abcdefgh when 1;");
        faulty(2, rocks(10) + "name |k when 1;");
        faulty(2, rocks(10) + "remain 0 from j to |k;");
    }

    private static void toldAgain() {
        faulty(3, "rock a 0 to 0; rock |a");
        faulty(3, "rock a 0 to 0; rock b 0 to 0; rock |b 0 to 0;");
        faulty(3, rocks(9) + "rock |a");
        faulty(3, rocks(9) + "rock |i");
        faulty(3, "steep 5;|steep");
        faulty(3, "drift 5;|drift");
        faulty(3, "steep 5; drift 5; |steep 5;");
        faulty(3, "rock a 0 to 0;remain 0 from a to a;remain |0");
        faulty(3, "rock a 0 to 0;remain 9 from a to a;remain |9");
        faulty(3, "rock a 0 to 0;remain 9 from a to a;remain |0009 from a to a;");
        faulty(1, "steep 5;|steeps");
    }

    private static void numbersAmiss() {
        faulty(4, "rank |0");
        faulty(4, "rank|0");
        faulty(4, "rank |100");
        faulty(4, "steep |100");
        faulty(4, "drift |100");
        faulty(4, "remain |10");
        faulty(4, "rock a |201");
        faulty(4, "rock a 0 to |201");
        faulty(4, "rock a 1 to |0");
        faulty(4, "rock a 200 to |199");
        faulty(4, "steep 5; rock a 200 to |0000;");
        well("rank 5 when 9999 + 9999;");
    }

    private static void secondName() {
        String rocks = "rock a 0 to 0; rock b 0 to 0; ";
        faulty(4, rocks + "remain 0 from b to |a");
        well(rocks + "remain 0 from b to b;");
        well(rocks + "remain 0 from a to b;");
        faulty(4, rocks(10) + "remain 0 from j to |i;");
        faulty(4, rocks(10) + "remain 0 from j to |a;");
        well(rocks(10) + "remain 0 from a to j; remain 1 from j to j;");
    }

    private static void oneTooMany() {
        faulty(5, rocks(10) + "|rock");
        faulty(5, rocks(10) + "|rock *");
        String lines = "rock a 0 to 0;" + "name a when 1;".repeat(8) + "rank 5 when 1;".repeat(8) + "draw full when 1;".repeat(8);
        String[] words = {"name", "rank", "draw"};
        for (String word : words) {
            faulty(5, lines + "|" + word);
            faulty(5, lines + "|" + word + " *");
        }
        well(lines + "rock b 0 to 0;");
        faulty(1, lines + "|names");
        String last = lines.substring(0, lines.length() - "draw full when 1;".length());
        faulty(1, last + "draw|");
        faulty(1, last + "name |*");
    }

    private static void oneTooDeep() {
        faulty(5, "rank 5 when not not not not |not 1;");
        faulty(5, "rank 5 when not not not not |1;");
        faulty(5, "rank 5 when ((((|(1)))));");
        faulty(5, "rank 5 when ((((|1))));");
        faulty(5, "rank 5 when ((((|not 1))));");
        faulty(5, "rank 5 when not ( not ( |colour ) );");
        faulty(5, "rank5when((((|1");
        well("rank 5 when not not not 1;");
        well("rank 5 when (((1)));");
        faulty(5, "rank 5 when (((1 + (|2))));");
        faulty(5, "rank 5 when (((1 and not |2)));");
        well("rank 5 when (((1))) and (((2))) + not not not 3;");
    }

    private static void fromNowOn() {
        LandSurvey x = new LandSurvey();
        x.days(4);
        x.view(1);
        CHECK.same("read", Check.rules(x, "rock a 0 to 0;"), 0);
        CHECK.same("not in the view", x.count(4), 0);
        x.days(3);
        int[] due = {0, 0, 0, 0, 1, 1, 1, 1};
        for (int day = 0; day <= 7; day++) {
            x.view(day);
            CHECK.same("rocks on day " + day, x.count(4), due[day]);
        }
    }

    private static void inPlace() {
        LandSurvey x = Check.with("rock a 0 to 0; rock b 0 to 0; steep 3; name a when 1;");
        CHECK.same("again", Check.rules(x, "rock c 0 to 0;"), 0);
        CHECK.same("one rock alone", x.count(4), 1);
        CHECK.same("of one day", x.count(8), 1);
        x.sight(2, 0, 0, 0, 0, 0);
        CHECK.same("no name line is left", x.look(0, 0), -1);
        for (int n = 0; n < 20; n++) {
            CHECK.same("any number of times", Check.rules(x, "rock a 0 to 0; rock b 0 to 0;"), 0);
        }
        CHECK.same("of one day", x.count(8), 1);
        CHECK.same("with a line", Check.rules(x, "rock a 0 to 0; rock b 0 to 0; rank 5 when 0; name b when 0; name a when 1;"), 0);
        CHECK.same("by that line", x.look(0, 0), 0);
        CHECK.same("by no line of those ahead", x.look(0, 1), 10);
        CHECK.same("with another line", Check.rules(x, "rock a 0 to 0; rock b 0 to 0; name b when 2 - 1; rank 8 when 1;"), 0);
        CHECK.same("by the other line", x.look(0, 0), 1);
        CHECK.same("by the other line", x.look(0, 1), 8);
        CHECK.same("a fault behind a line", Check.rules(x, "rank 7 when 0; *"), 1 + 16 * 15);
        CHECK.same("as they were", x.look(0, 1), 8);
        CHECK.same("without that line", Check.rules(x, "rock a 0 to 0; rock b 0 to 0; rank 9 when 1;"), 0);
        CHECK.same("by the new one", x.look(0, 1), 9);
        x.days(1);
        CHECK.same("on another day", Check.rules(x, "rock a 0 to 0;"), 0);
        CHECK.same("of two days", x.count(8), 2);
        CHECK.same("in place of the second alone", Check.rules(x, ""), 0);
        CHECK.same("no rock", x.count(4), 0);
        x.view(0);
        CHECK.same("the first ones stand", x.count(4), 2);
    }

    private static void notWithAFault() {
        LandSurvey x = Check.with("rock a 0 to 0;");
        CHECK.same("a fault at the end", Check.rules(x, "rock b 0 to 0; rock c 0 to 0; rock"), 1 + 16 * 34);
        CHECK.same("as they were", x.count(4), 1);
        x.days(1);
        CHECK.same("a fault on another day", Check.rules(x, "rock b 0 to 0; rock c 0 to 0; rock"), 1 + 16 * 34);
        CHECK.same("as they were", x.count(4), 1);
        CHECK.same("of one day", x.count(8), 1);
        LandSurvey y = new LandSurvey();
        CHECK.same("a fault on a new land", Check.rules(y, "*"), 1);
        CHECK.same("of no day", y.count(8), 0);
    }

    private static LandSurvey eightDaysOfRules() {
        LandSurvey x = new LandSurvey();
        for (int day = 0; day < 8; day++) {
            x.days(day == 0 ? 0 : 1);
            CHECK.same("on day " + day, Check.rules(x, rocks(day + 1)), 0);
        }
        return x;
    }

    private static void eightDays() {
        LandSurvey x = eightDaysOfRules();
        CHECK.same("eight", x.count(8), 8);
        x.days(1);
        CHECK.same("one too many", Check.rules(x, "rock a 0 to 0;"), -1);
        CHECK.same("the tape is empty", x.count(9), 0);
        CHECK.same("eight", x.count(8), 8);
        CHECK.same("as they were", x.count(4), 8);
        CHECK.same("one too many without a text", x.rules(), -1);
        CHECK.same("a fault is told all the same", Check.rules(x, "rock a"), 1 + 16 * 6);
        x.days(1000);
        CHECK.same("on any day", Check.rules(x, "steep 5;"), -1);
        for (int day = 0; day < 8; day++) {
            x.view(day);
            CHECK.same("rocks on day " + day, x.count(4), day + 1);
            CHECK.same("the view makes no room", Check.rules(x, "steep 5;"), -1);
        }
    }

    private static void eighthDayAgain() {
        LandSurvey x = eightDaysOfRules();
        CHECK.same("in place of those of the eighth day", Check.rules(x, "rock a 0 to 0;"), 0);
        CHECK.same("one rock", x.count(4), 1);
        CHECK.same("eight", x.count(8), 8);
        CHECK.same("and again", Check.rules(x, rocks(3)), 0);
        CHECK.same("three rocks", x.count(4), 3);
        x.view(6);
        CHECK.same("those of the seventh stand", x.count(4), 7);
        LandSurvey y = new LandSurvey();
        for (int day = 0; day < 7; day++) {
            y.days(1);
            Check.rules(y, "steep 5;");
        }
        y.days(1);
        CHECK.same("a fault takes no day", Check.rules(y, "*"), 1);
        CHECK.same("the eighth", Check.rules(y, "steep 5;"), 0);
    }

    private static void withoutAny() {
        LandSurvey x = new LandSurvey();
        x.sight(2, 0, 0, 0, 0, 0);
        CHECK.same("no rocks", x.count(4), 0);
        CHECK.same("no rock of a sight", x.look(0, 0), -1);
        CHECK.same("worth", x.look(0, 1), 10);
        CHECK.same("says nothing", x.look(0, 2), 0);
        CHECK.none("no line", () -> x.look(0, 7));
        CHECK.same("both, no rock", x.lies(0, 0, 0), 3072);
        CHECK.none("no top of a rock", () -> x.deep(0, 0, 0, 0));
        CHECK.same("no seam", x.seam(0, 0, 0), -1);
        CHECK.same("no water", x.water(0, 0, 0), -1);
        x.days(1);
        Check.rules(x, "rock a 0 to 0; name a when 1;");
        CHECK.same("says something", x.look(0, 2), 1);
        x.view(0);
        CHECK.same("no rock on the day ahead", x.look(0, 0), -1);
        CHECK.same("says nothing on the day ahead", x.look(0, 2), 0);
    }

    private static int rockBy(String test) {
        LandSurvey x = Check.with("rock a 0 to 0; name a when " + test + ";");
        x.cell(1, 1, 999, true);
        x.sight(4, 1, 1, 999, 5, 9876);
        return x.look(0, 0);
    }

    private static void firstName() {
        LandSurvey x = Check.with("rock a 0 to 0; rock b 0 to 0; rock c 0 to 0; name c when colour = 9; name a when colour = 9;"
            + " name b when 0 - colour; name a when 1;");
        x.sight(2, 0, 0, 0, 0, 9000);
        x.sight(2, 0, 0, 0, 0, 1000);
        x.sight(2, 0, 0, 0, 0, 0);
        int[] rocks = {2, 1, 0};
        int[] lines = {0, 2, 3};
        for (int k = 0; k < 3; k++) {
            CHECK.same("rock of " + k, x.look(k, 0), rocks[k]);
            CHECK.same("line of " + k, x.look(k, 7), lines[k]);
        }
        CHECK.same("below 0 is not 0", rockBy("0 - 1"), 0);
        CHECK.same("0 is 0", rockBy("1 - 1"), -1);
    }

    private static void heightOfItsCell() {
        LandSurvey x = Check.with("rock a 0 to 0; name a when height = 0; rank 7 when height = 999;");
        x.sight(3, 2, 2, 5, 0, 0);
        CHECK.same("500", x.look(0, 0), -1);
        x.cell(2, 2, 0, true);
        CHECK.same("0", x.look(0, 0), 0);
        x.cell(2, 2, 999, true);
        CHECK.same("999", x.look(0, 1), 7);
        x.cell(2, 3, 0, true);
        CHECK.same("of its own cell", x.look(0, 0), -1);
    }

    private static void factsOfLines() {
        String[] facts = {"agree", "apart", "same", "kept"};
        for (String fact : facts) {
            CHECK.same(fact, rockBy(fact), -1);
            CHECK.same(fact + " = 0", rockBy(fact + " = 0"), 0);
        }
        LandSurvey x = Check.with("rock a 0 to 0; name a when agree or apart or same or kept;");
        CHECK.same("a line is asked", x.line(0, 0, 1), 1);
        x.sight(2, 0, 0, 0, 0, 0);
        CHECK.same("0 all the same", x.look(0, 0), -1);
    }

    private static void negated() {
        CHECK.same("not 0", rockBy("not 0 = 1"), 0);
        CHECK.same("not 1", rockBy("not 1 = 0"), 0);
        CHECK.same("not 9999", rockBy("not 9999 = 0"), 0);
        CHECK.same("not of what is below 0", rockBy("not ( 0 - 5 ) = 0"), 0);
        CHECK.same("not takes the fact alone", rockBy("not 0 + 5 = 6"), 0);
        CHECK.same("not not", rockBy("not not 7 = 1"), 0);
    }

    private static void oneOrZero() {
        CHECK.same("and", rockBy("( 5 and 7 ) = 1"), 0);
        CHECK.same("and with what is below 0", rockBy("( 0 - 1 and 0 - 2 ) = 1"), 0);
        CHECK.same("or", rockBy("( 5 or 7 ) = 1"), 0);
        CHECK.same("or of none", rockBy("( 0 or 0 ) = 0"), 0);
        CHECK.same("less", rockBy("( 5 < 7 ) = 1"), 0);
        CHECK.same("not less", rockBy("( 7 < 7 ) = 0"), 0);
        CHECK.same("less below 0", rockBy("0 - 9999 < 0 - 9998"), 0);
        CHECK.same("equal", rockBy("( 7 = 7 ) + ( 7 = 8 ) = 1"), 0);
        CHECK.same("equal to a sum", rockBy("kind + hand = 9"), 0);
    }

    private static void fromTheLeft() {
        CHECK.same("1 or 1 and 0", rockBy("1 or 1 and 0"), -1);
        CHECK.same("0 and 1 or 1", rockBy("0 and 1 or 1"), 0);
        CHECK.same("0 and 0 or 1", rockBy("0 and 0 or 1"), 0);
        CHECK.same("1 or 0 and 0", rockBy("1 or 0 and 0"), -1);
        CHECK.same("1 - 1 - 1", rockBy("1 - 1 - 1 = 0 - 1"), 0);
        CHECK.same("2 - 1 + 1", rockBy("2 - 1 + 1 = 2"), 0);
    }

    private static void worth() {
        LandSurvey x = Check.with("rank 3 when hand = 1; rank 4 when hand < 3; rank 99 when 0 - hand + 5;");
        int[] due = {4, 3, 4, 99, 99, 10};
        for (int hand = 0; hand < 6; hand++) {
            x.sight(2, 0, 0, 0, hand, 0);
            CHECK.same("hand " + hand, x.look(hand, 1), due[hand]);
        }
    }

    private static void ages() {
        LandSurvey x = Check.with(rocks(5) + "name a when colour = 0; name b when colour = 1; name c when colour = 2;"
            + "name d when colour = 3; name e when colour = 4; remain 0 from b to d; remain 1 from c to c;");
        int[] wide = {1, 0, 0, 0, 1};
        int[] narrow = {1, 1, 0, 1, 1};
        for (int k = 0; k < 5; k++) {
            x.sight(2, k, 0, 0, 0, 1000 * k);
            x.remain(2 * k, 0, false);
            CHECK.same("rock " + k + " from 1 to 3", x.look(2 * k, 3), wide[k]);
            x.sight(2, k, 0, 0, 0, 1000 * k);
            x.remain(2 * k + 1, 1, false);
            CHECK.same("rock " + k + " from 2 to 2", x.look(2 * k + 1, 3), narrow[k]);
        }
        CHECK.same("in all", x.count(7), 6);
    }

    private static void agesOfNone() {
        LandSurvey x = Check.with("rock a 0 to 0; rock b 0 to 0; name a when colour = 0; remain 0 from b to b;");
        x.sight(2, 0, 0, 0, 0, 0);
        x.sight(2, 0, 0, 0, 0, 0);
        x.sight(2, 0, 0, 0, 0, 1000);
        x.sight(2, 0, 0, 0, 0, 0);
        x.sight(2, 0, 0, 0, 0, 0);
        x.remain(1, 1, false);
        x.remain(2, 0, false);
        x.remain(3, 0, true);
        x.remain(4, 0, false);
        String[] why = {"no remain", "a remain that is not told", "no rock", "washed in", "not one of them"};
        for (int k = 0; k < 5; k++) {
            CHECK.same(why[k], x.look(k, 3), k == 4 ? 1 : 0);
        }
        x.days(1);
        Check.rules(x, "rock a 0 to 0; name a when 1;");
        CHECK.same("told by the rules no more", x.look(4, 3), 0);
        x.view(0);
        CHECK.same("told by the rules then", x.look(4, 3), 1);
    }
}
