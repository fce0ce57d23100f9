/** The terms of a RULE's text, what its SUMS and TESTS are worth, and promise 5: each limit on both sides. */
final class RuleEdgeTest {
    private static final Due DUE = new Due();
    /** 2 to the 62nd, as 2 to the 15th four times and four more. */
    private static final String HUGE = "32768*32768*32768*32768*4";
    /** -1: no VALUE is below 0, but this product goes round to 2 to the 64th less 1. */
    private static final String MINUS_ONE = "99999*2389*2275*60461*1031*3823*5059";

    public static void main(String[] args) {
        rulesAtMost();
        ruleTakesTheTape();
        ruleRefused();
        bytesAtMost();
        clausesAtMost();
        numbers();
        words();
        blanks();
        signs();
        clauseForms();
        testForms();
        deepAtMost();
        valuesAtMost();
        theEnd();
        firstAlongTheText();
        leastOfOnePlace();
        order();
        division();
        goesRound();
        comparisons();
        joining();
        firstClause();
        wordsOfADish();
        known();
        clashes();
        left();
        throatAndTop();
        sitting();
        minute();
        DUE.close();
    }

    private static void due(String call, long got, long want) {
        DUE.due(call, got, want);
    }

    private static void good(String text) {
        due("rule of '" + text + "'", Due.ruleOf(new SpokenBite(), text), 0);
    }

    private static void bad(String text, int place, int kind) {
        due("rule of '" + text + "'", Due.ruleOf(new SpokenBite(), text), Due.faulty(place, kind));
    }

    /** "RULES 0 to 5"; "its number; .. NONE, and nothing happens: there are 6." */
    private static void rulesAtMost() {
        SpokenBite b = new SpokenBite();
        for (int i = 0; i < 6; i++) {
            due("RULES", b.count(3), i);
            due("its number", Due.ruleOf(b, "eat " + (i + 1)), i);
        }
        due("six", b.count(3), 6);
        for (String text : new String[] {"eat 1", "", "eat", "dinner 3"}) {
            Twin.Setup setup = () -> {
                SpokenBite six = Twin.rich();
                for (int i = 3; i < 6; i++) {
                    Due.ruleOf(six, "eat " + i + "-dish");
                }
                Due.feedText(six, text);
                return six;
            };
            Twin.changesNothing(DUE, "a seventh, '" + text + "'", setup, SpokenBite::rule, -1);
            SpokenBite six = setup.make();
            six.rule();
            due("the TAPE stays", six.count(13), text.length());
            due("six still", six.count(3), 6);
        }
    }

    /** "The TAPE, which is empty then, is a RULE"; it is not IN FORCE by that. */
    private static void ruleTakesTheTape() {
        SpokenBite b = Twin.rich();
        due("its number", b.rule(), 3);
        due("the TAPE is empty", b.count(13), 0);
        due("so it is no RULE now", b.rule(), Due.faulty(0, 0));
        due("RULES", b.count(3), 4);
        due("IN FORCE is who was", b.count(4), 1);
        due("no ACT", b.count(11), 5);
        due("NOTES stay", b.count(10), 2);
        due("MINUTE stays", b.count(5), 3);
        SpokenBite without = new SpokenBite();
        due("without a DINNER, too", Due.ruleOf(without, "eat 1"), 0);
    }

    /** "-2 - its FAULT". */
    private static void ruleRefused() {
        String[] texts = {"", "eat", "eat 123456", "eat 1 if " + "[".repeat(11), "eat 1" + "+1".repeat(60), "eat 1;".repeat(13)};
        int[] faults = {Due.faulty(0, 0), Due.faulty(3, 0), Due.faulty(4, 1), Due.faulty(19, 2), Due.faulty(124, 3), Due.faulty(72, 4)};
        for (int i = 0; i < texts.length; i++) {
            String text = texts[i];
            Twin.Setup setup = () -> {
                SpokenBite b = Twin.rich();
                b.end(0);
                Due.feedText(b, text);
                return b;
            };
            Twin.changesNothing(DUE, "rule of '" + text + "'", setup, SpokenBite::rule, faults[i]);
            SpokenBite b = setup.make();
            b.rule();
            due("no RULE more", b.count(3), 3);
            due("behind it another one", Due.ruleOf(b, "eat 7"), 3);
        }
        SpokenBite again = new SpokenBite();
        Due.dinnerOf(again, "dinner 1;dish 1 1;dish 2 2");
        due("refused at its end", Due.ruleOf(again, "eat dish;eat dish if minute=1;eat"), Due.faulty(33, 0));
        due("then one that is", Due.ruleOf(again, "eat 2-dish"), 0);
        again.force(0);
        due("nothing of the refused one is in it", again.ahead(0, 1, 2), 2);
    }

    /** "texts likewise": at most 400 bytes. */
    private static void bytesAtMost() {
        good("eat 1" + " ".repeat(394) + " ");
        good("eat 1" + " ".repeat(393) + "+1");
        bad("eat 1" + " ".repeat(394) + "+", 400, 0);
        bad("eat 1" + " ".repeat(394) + "x", 399, 0);
    }

    /** "12 CLAUSES at most"; "4 one CLAUSE too many (at its first byte)". */
    private static void clausesAtMost() {
        good("eat 1");
        good("eat 1;".repeat(10) + "eat 1");
        good("eat 1;".repeat(11) + "eat 1");
        bad("eat 1;".repeat(12) + "eat 1", 72, 4);
        bad("eat 1;".repeat(12) + "  eat", 74, 4);
        bad("eat 1;".repeat(12) + "eat x", 72, 4);
        bad("eat 1;".repeat(12) + "eats 1", 72, 0);
        bad("eat 1;".repeat(12), 72, 0);
        bad("eat 1;".repeat(12) + " ;", 73, 0);
    }

    /** "NUMBER (1 to 5 digits, as far as digits go on)"; "1 a NUMBER of more digits". */
    private static void numbers() {
        worth("99999", "9*11111", true);
        worth("00000", "0", true);
        worth("00012", "12", true);
        bad("eat 100000", 4, 1);
        bad("eat 000000", 4, 1);
        bad("eat 1+100000", 6, 1);
        bad("eat 1 if 100000=1", 9, 1);
        bad("eat 1 if 1=100000", 11, 1);
        bad("eat " + "9".repeat(396), 4, 1);
        bad("eat -1", 4, 0);
        bad("eat 1/1:", 7, 0);
        bad("eat /1", 4, 0);
        bad("eat 1 2", 6, 0);
        bad("eat 1a", 5, 0);
    }

    /** "WORDS (small letters, as far as these go on)". */
    private static void words() {
        for (String word : "dish loud says known clashes left throat top sitting minute".split(" ")) {
            good("eat " + word);
            good("eat" + " 1*" + word + "+1 if " + word + "=" + word);
            bad("eat " + word + "s", 4, 0);
            bad("eat " + word + "a", 4, 0);
            bad("eat " + word + "z", 4, 0);
            bad("eat " + word.substring(0, word.length() - 1), 4, 0);
            bad("eat " + word.toUpperCase(), 4, 0);
            bad("eat" + word, 0, 0);
            bad("eat " + word + "`", 4 + word.length(), 0);
            bad("eat " + word + "{", 4 + word.length(), 0);
            bad("eat 1 if 1=" + word + "x", 11, 0);
            bad("eat " + word + "1", 4 + word.length(), 0);
        }
        for (String word : "eat if and or not dinner guest clash ears x".split(" ")) {
            bad("eat " + word, 4, 0);
            bad("eat 1+" + word, 6, 0);
        }
        good("eat1");
        good("eat 1if1=1and1=1or1=1");
        bad("eat 1ifnot 1=1", 5, 0);
        bad("eat 1 if notdish=1", 9, 0);
        bad("eat 1 if 1=1 andnot 1=1", 13, 0);
        bad("Eat 1", 0, 0);
        bad("dinner 3", 0, 0);
    }

    /** "Blanks (32) stand between as one likes." */
    private static void blanks() {
        good("   eat   1   +   dish   if   not   [   1   <=   1   ]   and   1   =   1   ;   eat   2   ");
        good("eat 1+dish if not[1<=1]and 1=1;eat 2");
        bad("eat 1 if 1< =1", 12, 0);
        bad("eat 1 if 1> =1", 12, 0);
        bad("e at 1", 0, 0);
        bad("eat 1 i f 1=1", 6, 0);
        for (int sign : new int[] {0, 9, 10, 13, 31, 33, 128, 160, 255}) {
            bad("eat" + (char) sign + "1", 3, 0);
            bad("eat 1" + (char) sign, 5, 0);
            bad("eat 1 if 1=1" + (char) sign, 12, 0);
        }
    }

    /** "SIGN one of < <= = >= >." */
    private static void signs() {
        for (String sign : new String[] {"<", "<=", "=", ">=", ">"}) {
            good("eat 1 if 1" + sign + "1");
        }
        bad("eat 1 if 1==1", 11, 0);
        bad("eat 1 if 1=<1", 11, 0);
        bad("eat 1 if 1=>1", 11, 0);
        bad("eat 1 if 1<>1", 11, 0);
        bad("eat 1 if 1><1", 11, 0);
        bad("eat 1 if 1<<1", 11, 0);
        bad("eat 1 if 1>>1", 11, 0);
        bad("eat 1 if 1<==1", 12, 0);
        bad("eat 1 if 1!=1", 10, 0);
        bad("eat 1 if =1", 9, 0);
        bad("eat 1 if 1=", 11, 0);
        bad("eat 1 if 1=1=1", 12, 0);
        bad("eat 1 if 1<1<1", 12, 0);
    }

    /** "eat SUM [ if TEST ]", ";" between CLAUSES. */
    private static void clauseForms() {
        bad("eat", 3, 0);
        bad("eat if 1=1", 4, 0);
        bad("eat 1 if", 8, 0);
        bad("eat 1 if;", 8, 0);
        bad("eat 1 1=1", 6, 0);
        bad("eat 1=1", 5, 0);
        bad("eat 1 and 1=1", 6, 0);
        bad("eat 1 or 1=1", 6, 0);
        bad("eat 1 not 1=1", 6, 0);
        bad("eat [1]", 4, 0);
        bad("eat 1]", 5, 0);
        bad("eat 1 if 1=1 if 1=1", 13, 0);
        bad("eat 1;", 6, 0);
        bad("eat 1;;eat 1", 6, 0);
        bad(";eat 1", 0, 0);
        bad("eat 1 eat 1", 6, 0);
        bad("eat 1 if 1=1 eat 1", 13, 0);
        bad("eat 1,eat 1", 5, 0);
        bad("eat 1;dish 1 1", 6, 0);
        bad("eat 1+", 6, 0);
        bad("eat +1", 4, 0);
        bad("eat 1+-1", 6, 0);
        bad("eat 1**1", 6, 0);
        bad("eat 1+;", 6, 0);
    }

    /** "TEST: PART { or PART }. PART: FACT { and FACT }. FACT: not FACT | [ TEST ] | SUM SIGN SUM". */
    private static void testForms() {
        good("eat 1 if [1=1]");
        good("eat 1 if [[1=1]and[1=1]]or not[1=1]");
        good("eat 1 if not not 1=1");
        bad("eat 1 if 1", 10, 0);
        bad("eat 1 if 1 2", 11, 0);
        bad("eat 1 if dish loud", 14, 0);
        bad("eat 1 if 1 dish and 1=1", 11, 0);
        bad("eat 1 if not", 12, 0);
        bad("eat 1 if not 1", 14, 0);
        bad("eat 1 if and 1=1", 9, 0);
        bad("eat 1 if or 1=1", 9, 0);
        bad("eat 1 if 1=1 and", 16, 0);
        bad("eat 1 if 1=1 or", 15, 0);
        bad("eat 1 if 1=1 and or 1=1", 17, 0);
        bad("eat 1 if 1=1 not 1=1", 13, 0);
        bad("eat 1 if 1 and 1=1", 11, 0);
        bad("eat 1 if []", 10, 0);
        bad("eat 1 if [1=1", 13, 0);
        bad("eat 1 if [1=1;", 13, 0);
        bad("eat 1 if [1=1[", 13, 0);
        bad("eat 1 if 1=1]", 12, 0);
        bad("eat 1 if [1=1]]", 14, 0);
        bad("eat 1 if [1]=1", 11, 0);
        bad("eat 1 if [1=1]=1", 14, 0);
        bad("eat 1 if [1=1]+1=1", 14, 0);
        bad("eat 1 if 1=[1]", 11, 0);
        bad("eat 1 if 1=1+[1]", 13, 0);
        bad("eat 1 if ]1=1[", 9, 0);
    }

    /** "[ and not lie within one another 10 deep at most"; "2 too deep (at the sign that opens, or the word not)". */
    private static void deepAtMost() {
        for (int signs = 0; signs <= 11; signs++) {
            String opens = "[".repeat(signs);
            String closes = "]".repeat(signs);
            if (signs <= 10) {
                good("eat 1 if " + opens + "1=1" + closes);
                good("eat 1 if " + "not ".repeat(signs) + "1=1");
                good("eat 1 if " + opens + "not ".repeat(10 - signs) + "1=1" + closes);
                bad("eat 1 if " + opens + "not ".repeat(11 - signs) + "1=1" + closes, signs == 10 ? 19 : 9 + signs + 4 * (10 - signs), 2);
                bad("eat 1 if " + "not ".repeat(signs) + "[".repeat(11 - signs) + "1=1", 9 + 4 * signs + 10 - signs, 2);
            } else {
                bad("eat 1 if " + opens + "1=1" + closes, 19, 2);
                bad("eat 1 if " + "not ".repeat(signs) + "1=1", 49, 2);
            }
        }
        String ten = "[".repeat(10) + "1=1" + "]".repeat(10);
        good("eat 1 if " + ten + " and " + ten + " or not 1=1");
        good("eat 1 if " + "not ".repeat(10) + "1=1 and " + "not ".repeat(10) + "1=1");
        good("eat 1 if " + "[".repeat(9) + "not 1=1 and not 1=1 or [1=1]" + "]".repeat(9));
        bad("eat 1 if " + "[".repeat(10) + "1=1 and [1=1", 27, 2);
        bad("eat 1 if " + "[".repeat(10) + "1=1 or not 1=1", 26, 2);
        bad("eat 1 if " + "[".repeat(9) + "not [1=1", 22, 2);
        good("eat 1 if " + ten + ";eat 1 if " + ten);
        bad("eat 1 if " + "[".repeat(11), 19, 2);
        bad("eat 1 if " + "[".repeat(10), 19, 0);
        bad("eat 1 if " + "[".repeat(10) + "notx", 19, 0);
    }

    /** "at most 60 VALUES (of SUMS) and FACTS made of a SIGN, together"; "3 one .. too many (at its first byte; of a FACT at its SIGN)". */
    private static void valuesAtMost() {
        good("eat 1" + "+1".repeat(58));
        good("eat 1" + "+1".repeat(59));
        bad("eat 1" + "+1".repeat(60), 124, 3);
        bad("eat 1" + "+1".repeat(59) + " * dish", 126, 3);
        good("eat 1" + "+1".repeat(56) + " if 1=1");
        bad("eat 1" + "+1".repeat(57) + " if 1=1", 125, 3);
        bad("eat 1" + "+1".repeat(58) + " if 1=1", 126, 3);
        bad("eat 1" + "+1".repeat(58) + " if 1 >=1", 127, 3);
        bad("eat 1" + "+1".repeat(59) + " if 1=1", 127, 3);
        String twenty = "1=1" + " or 1=1".repeat(18);
        good("eat 1 if " + twenty);
        good("eat 1+1+1 if " + twenty);
        bad("eat 1+1+1+1 if " + twenty, 15 + twenty.length() - 1, 3);
        good("eat 1+1+1 if not[" + twenty + "]");
        good("eat 1+1+1+1+1;".repeat(11) + "eat 1+1+1+1+1");
        bad("eat 1+1+1+1+1;".repeat(11) + "eat 1+1+1+1+1+1", 168, 3);
        bad("eat 1+1+1+1+1+1;".repeat(10) + "eat 1", 164, 3);
    }

    /** "0 .. or the end (behind the last byte)". */
    private static void theEnd() {
        bad("", 0, 0);
        bad(" ", 1, 0);
        bad(" ".repeat(400), 400, 0);
        bad("eat ", 4, 0);
        bad("eat 1;  ", 8, 0);
        bad("eat 1 if 1 ", 11, 0);
        bad("eat 1 if [1=1  ", 15, 0);
        bad("eat 1 if 1=1 and  ", 18, 0);
    }

    /** "FAULTS, the first along the text". */
    private static void firstAlongTheText() {
        bad("eat x if " + "[".repeat(11), 4, 0);
        bad("eat 123456;x", 4, 1);
        bad("eat 1 if " + "[".repeat(11) + "123456", 19, 2);
        bad("eat 1" + "+1".repeat(60) + " if " + "[".repeat(11), 124, 3);
        bad("eat 1 if " + "[".repeat(11) + "1" + "+1".repeat(70), 19, 2);
        bad("eat 1;".repeat(12) + "eat 1" + "+1".repeat(50), 72, 4);
        bad("eat 1" + "+1".repeat(60) + ";eat 123456", 124, 3);
        bad("eat 1+1+1+1+1;".repeat(12) + "eat 1", 168, 4);
    }

    /** "Of one place the least." */
    private static void leastOfOnePlace() {
        bad("eat 1" + "+1".repeat(59) + "+123456", 124, 1);
        bad("eat 1" + "+1".repeat(59) + "+loudly", 124, 0);
        bad("eat 1" + "+1".repeat(59) + "+", 124, 0);
        bad("eat 1" + "+1".repeat(59) + " if [1=1", 128, 3);
        bad("eat 1" + "+1".repeat(58) + " if 1!1", 126, 0);
        bad("eat 1" + "+1".repeat(58) + " if 1", 126, 0);
        bad("eat 1 222222", 6, 0);
        bad("eat 1;".repeat(12) + "tea", 72, 0);
    }

    /** Is one SUM the same as another, in the first MINUTE of a DINNER of one DISH? */
    private static void worth(String sum, String other, boolean same) {
        SpokenBite b = new SpokenBite();
        Due.dinnerOf(b, "dinner 1;dish 1 1");
        due("rule", Due.ruleOf(b, "eat 1 if " + sum + "=" + other), 0);
        b.force(0);
        due(sum + " = " + other, b.ahead(0, 1, 2), same ? 0 : 1);
    }

    /** Does a TEST hold there? */
    private static void holds(String test, boolean so) {
        SpokenBite b = new SpokenBite();
        Due.dinnerOf(b, "dinner 1;dish 1 1");
        due("rule of " + test, Due.ruleOf(b, "eat 1 if " + test), 0);
        b.force(0);
        due(test, b.ahead(0, 1, 2), so ? 0 : 1);
    }

    /** "SUM: TERM { (+ or -) TERM }. TERM: VALUE { (* or / or %) VALUE }." */
    private static void order() {
        worth("2+3*4", "14", true);
        worth("2*3+4", "10", true);
        worth("2*3+4*5", "26", true);
        worth("9-3-2", "4", true);
        worth("9-3+2", "8", true);
        worth("100/5/2", "10", true);
        worth("100/5*2", "40", true);
        worth("100%7*3", "6", true);
        worth("2*100%7", "4", true);
        worth("100%30%4", "2", true);
        worth("9-2*3-1", "2", true);
        worth("9-8/4/2", "8", true);
        worth("1+1", "2+1", false);
    }

    /** "/ is towards 0, % its rest, both 0 by 0". */
    private static void division() {
        worth("7/2", "3", true);
        worth("6/2", "3", true);
        worth("1/2", "0", true);
        worth("7%2", "1", true);
        worth("6%2", "0", true);
        worth("0-7/2", "0-3", true);
        for (int[] two : new int[][] {{7, 2}, {7, 7}, {7, 8}, {1, 2}, {99999, 2}}) {
            String minus = two[0] + "*" + MINUS_ONE;
            worth(minus + "/" + two[1], "0-" + two[0] / two[1], true);
            worth(minus + "%" + two[1], "0-" + two[0] % two[1], true);
        }
        worth("5/0", "0", true);
        worth("5%0", "0", true);
        worth("0/0", "0", true);
        worth("0%0", "0", true);
        worth("1+5/0", "1", true);
        worth("5/0/0+5%0%0", "0", true);
        worth("5/0*7+3", "3", true);
        worth(HUGE + "*2/0", "0", true);
        worth(HUGE + "*2%0", "0", true);
        holds("5/dish=0 and 5%dish=0", true);
    }

    /** "all goes round in 64 bits". */
    private static void goesRound() {
        worth(HUGE + "*4", "0", true);
        worth(HUGE + "*2+" + HUGE + "*2", "0", true);
        holds(HUGE + "*2<0", true);
        holds(HUGE + "*2-1>0", true);
        holds(HUGE + ">0", true);
        holds(HUGE + "+" + HUGE + "<0", true);
        holds("0-" + HUGE + "-" + HUGE + "<0", true);
        holds("0-" + HUGE + "-" + HUGE + "-1>0", true);
        worth("0-" + HUGE + "-" + HUGE, HUGE + "*2", true);
        worth(MINUS_ONE, "0-1", true);
        worth("1*" + MINUS_ONE + "*" + MINUS_ONE, "1", true);
        // the least number of all, which has no counterpart above 0
        worth(HUGE + "*2/2", "0-" + HUGE, true);
        worth(HUGE + "*2*" + MINUS_ONE, HUGE + "*2", true);
        SpokenBite b = new SpokenBite();
        Due.dinnerOf(b, "dinner 1;dish 1 1;dish 2 2");
        Due.ruleOf(b, "eat " + HUGE + "*2-1*dish");
        b.force(0);
        due("by the greatest number of 64 bits", b.ahead(0, 1, 2), 1);
    }

    private static void comparisons() {
        int[][] twos = {{1, 2}, {2, 2}, {3, 2}, {0, 0}, {99999, 99998}};
        for (int[] two : twos) {
            holds(two[0] + "<" + two[1], two[0] < two[1]);
            holds(two[0] + "<=" + two[1], two[0] <= two[1]);
            holds(two[0] + "=" + two[1], two[0] == two[1]);
            holds(two[0] + ">=" + two[1], two[0] >= two[1]);
            holds(two[0] + ">" + two[1], two[0] > two[1]);
        }
        holds("0-1<0", true);
        holds("0-2<0-1", true);
        holds("1+1=4-2", true);
    }

    /** "and" binds closer than "or", "not" closer than both. */
    private static void joining() {
        String[] facts = {"1=2", "1=1"};
        for (int a = 0; a < 2; a++) {
            for (int b = 0; b < 2; b++) {
                for (int c = 0; c < 2; c++) {
                    String one = facts[a];
                    String two = facts[b];
                    String three = facts[c];
                    holds(one + " or " + two + " and " + three, a + b * c > 0);
                    holds(one + " and " + two + " or " + three, a * b + c > 0);
                    holds("[" + one + " or " + two + "] and " + three, (a + b) * c > 0);
                    holds(one + " and [" + two + " or " + three + "]", a * (b + c) > 0);
                    holds("not " + one + " and " + two + " or " + three, (1 - a) * b + c > 0);
                    holds("not " + one + " or " + two + " and " + three, 1 - a + b * c > 0);
                    holds("not [" + one + " or " + two + "] and " + three, (1 - a) * (1 - b) * c > 0);
                    holds("not not " + one + " and not " + two + " or not " + three, a * (1 - b) + 1 - c > 0);
                    holds(one + " and " + two + " and " + three, a * b * c > 0);
                    holds(one + " or " + two + " or " + three, a + b + c > 0);
                }
            }
        }
        String[] so = {"1<2", "1<=2", "1=1", "2>=1", "2>1", "not 1=2", "[1<2]"};
        String[] notSo = {"2<1", "2<=1", "1=2", "1>=2", "1>2", "not 1=1", "[2<1]"};
        for (int i = 0; i < so.length; i++) {
            for (int j = 0; j < so.length; j++) {
                holds(so[i] + " and " + so[j], true);
                holds(so[i] + " and " + notSo[j], false);
                holds(notSo[i] + " or " + so[j], true);
                holds(notSo[i] + " or " + notSo[j], false);
                holds("not [" + so[i] + " and " + so[j] + "]", false);
            }
        }
        holds("[".repeat(10) + "1=1" + "]".repeat(10), true);
        holds("not ".repeat(10) + "1=1", true);
        holds("not ".repeat(9) + "1=1", false);
        // sixty VALUES and FACTS, nine deep, at each depth something that waits for what is within
        for (int two = 2; two <= 3; two++) {
            String deep = "1+1*1=" + two;
            for (int i = 0; i < 9; i++) {
                deep = "1=2 or 1=1 and[" + deep + "]";
            }
            holds(deep, two == 2);
        }
    }

    /** "the SUM of the .. first CLAUSE without a TEST, or whose TEST holds (0 without)". */
    private static void firstClause() {
        chosen("eat 5;eat 9 if dish=1", 0);
        chosen("eat 9 if dish=1;eat 5", 1);
        chosen("eat 5 if dish=0;eat 9", 1);
        chosen("eat 0 if dish=1;eat 5;eat 7", 0);
        chosen("eat 0-3 if dish=0;eat 1 if 1=2;eat 5", 1);
        chosen("eat 5 if 1=2", -1);
        chosen("eat 5 if 1=2;eat 6 if 2=3", -1);
        chosen("eat 1 if 1=2;".repeat(11) + "eat dish", 1);
        chosen("eat 1 if 1=2;".repeat(5) + "eat dish;" + "eat 9-dish;".repeat(5) + "eat 9", 1);
        chosen("eat 0", -1);
        chosen("eat 0;eat 1", -1);
        chosen("eat 1", 0);
        chosen("eat 0-1", -1);
        chosen("eat dish", 1);
        chosen("eat 1-dish", 0);
        chosen("eat 0-dish", -1);
        chosen("eat 3-dish*5", 0);
    }

    /** Which of two DISHES he eats in the first MINUTE. */
    private static void chosen(String rule, int want) {
        SpokenBite b = new SpokenBite();
        Due.dinnerOf(b, "dinner 2;dish 1 1;dish 2 2");
        due("rule " + rule, Due.ruleOf(b, rule), 0);
        b.force(0);
        b.minute();
        due("eaten by " + rule, b.throat(1), want);
    }

    /** Is a SUM of a DISH that much now? Looked at by a RULE of its own, so six times an object at most. */
    private static void ofDish(SpokenBite b, int dish, String sum, int want) {
        int rule = Due.ruleOf(b, "eat 1 if dish=" + dish + " and " + sum + "=" + want);
        int was = b.force(rule);
        int table = b.count(6);
        due(sum + " of " + dish + " is " + want, b.ahead(0, 1, 2), table & ~(1 << dish));
        b.force(was);
    }

    private static void wordsOfADish() {
        for (int dish = 0; dish < 8; dish += 7) {
            SpokenBite b = new SpokenBite();
            Due.dinnerOf(b, "dinner 1;dish 0 7;dish 1 1;dish 1 1;dish 1 1;dish 1 1;dish 1 1;dish 1 1;dish 20 0");
            ofDish(b, dish, "dish", dish);
            ofDish(b, dish, "loud", dish == 0 ? 0 : 20);
            ofDish(b, dish, "says", dish == 0 ? 7 : 0);
        }
    }

    /** "known (how many GUESTS who sit KNOW that)". */
    private static void known() {
        SpokenBite b = new SpokenBite();
        Due.dinnerOf(b, "dinner 1;dish 0 3;dish 0 4" + ";guest 0".repeat(5) + ";clash 5 6");
        ofDish(b, 0, "known", 0);
        for (int guest = 0; guest < 5; guest++) {
            b.tell(guest, 3);
        }
        ofDish(b, 0, "known", 5);
        ofDish(b, 1, "known", 0);
        b.tell(4, 5);
        b.tell(4, 6);
        ofDish(b, 0, "known", 5);
        b.offer(1);
        b.minute();
        ofDish(b, 0, "known", 4);
    }

    /** "clashes (how many of what any who sits KNOWS it clashes with, each SECRET once)". */
    private static void clashes() {
        SpokenBite b = new SpokenBite();
        Due.dinnerOf(b, "dinner 1;dish 0 0;dish 0 7;guest 0;guest 0;clash 0 1;clash 2 0;clash 0 3;clash 5 6");
        ofDish(b, 0, "clashes", 0);
        b.tell(0, 1);
        b.tell(1, 1);
        ofDish(b, 0, "clashes", 1);
        b.tell(0, 2);
        b.tell(1, 3);
        b.tell(1, 4);
        b.tell(1, 0);
        ofDish(b, 0, "clashes", 3);
        ofDish(b, 1, "clashes", 0);
        b.undo();
        b.tell(1, 5);
        b.tell(1, 6);
        b.offer(1);
        b.minute();
        ofDish(b, 0, "clashes", 2);
        for (int secret = 0; secret < 8; secret++) {
            SpokenBite each = new SpokenBite();
            int other = (secret + 3) % 8;
            Due.dinnerOf(each, "dinner 1;dish 0 " + secret + ";guest 0;clash " + secret + " " + other);
            ofDish(each, 0, "clashes", 0);
            each.tell(0, other);
            ofDish(each, 0, "clashes", 1);
        }
    }

    /** "left (how many DISHES are on the table)": 8 to 1. */
    private static void left() {
        SpokenBite b = new SpokenBite();
        Due.dinnerOf(b, "dinner 1" + ";dish 0 0".repeat(8));
        ofDish(b, 7, "left", 8);
        b.minute();
        ofDish(b, 7, "left", 7);
        for (int i = 0; i < 6; i++) {
            b.minute();
        }
        ofDish(b, 7, "left", 1);
        b.serve(3);
        ofDish(b, 7, "left", 2);
    }

    /** "throat (how many are in it), top (how LOUD what is in the least PLACE there is, 0 if nothing is)". */
    private static void throatAndTop() {
        SpokenBite b = new SpokenBite();
        Due.dinnerOf(b, "dinner 6" + ";dish 3 0;dish 9 0".repeat(4));
        ofDish(b, 7, "throat*100+top", 0);
        b.minute();
        ofDish(b, 7, "throat*100+top", 103);
        b.minute();
        ofDish(b, 7, "throat*100+top", 209);
        b.minute();
        b.minute();
        b.minute();
        ofDish(b, 7, "throat*100+top", 503);
        b.minute();
        ofDish(b, 7, "throat*100+top", 509);
        SpokenBite gap = new SpokenBite();
        Due.dinnerOf(gap, "dinner 6;dish 3 0;dish 9 0;dish 7 0");
        Due.ruleOf(gap, "eat 0");
        gap.offer(1);
        gap.minute();
        gap.offer(0);
        gap.minute();
        gap.force(0);
        gap.minute();
        ofDish(gap, 2, "throat*100+top", 203);
        gap.minute();
        gap.minute();
        gap.minute();
        ofDish(gap, 2, "throat*100+top", 103);
        gap.minute();
        ofDish(gap, 2, "throat*100+top", 0);
    }

    /** "sitting (how many GUESTS sit)": 5 to 0. */
    private static void sitting() {
        SpokenBite b = new SpokenBite();
        Due.dinnerOf(b, "dinner 1" + ";dish 0 0".repeat(8) + ";guest 0".repeat(5) + ";clash 1 2");
        ofDish(b, 7, "sitting", 5);
        for (int guest = 0; guest < 5; guest++) {
            b.tell(guest, 1);
            b.tell(guest, 2);
            if (guest == 2 || guest == 4) {
                ofDish(b, 7, "sitting", guest == 2 ? 5 : 2);
                b.minute();
                ofDish(b, 7, "sitting", guest == 2 ? 2 : 0);
            }
        }
        b.fetch(3);
        ofDish(b, 7, "sitting", 1);
    }

    /** "minute": the MINUTE that it is. */
    private static void minute() {
        SpokenBite b = new SpokenBite();
        Due.dinnerOf(b, "dinner 1;dish 0 0;dish 0 0;dish 0 0");
        ofDish(b, 2, "minute", 0);
        b.minute();
        ofDish(b, 2, "minute", 1);
        b.minute();
        ofDish(b, 2, "minute", 2);
        b.serve(0);
        b.serve(1);
        Due.ruleOf(b, "eat 1 if minute=100");
        b.force(3);
        due("asked MINUTES have their numbers, too: 98 more", b.ahead(0, 98, 2), 7);
        due("and one more", b.ahead(0, 99, 2), 6);
    }
}
