/** Promises 1 to 5: a new object, feed, end, dinner, rule, and each FAULT of both languages. */
final class TextTest {
    private static final Due DUE = new Due();

    public static void main(String[] args) {
        newObject();
        feed();
        end();
        dinner();
        dinnerFaults();
        dinnerLimits();
        rule();
        ruleFaults();
        ruleLimits();
        worth();
        DUE.close();
    }

    private static void due(String call, long got, long want) {
        DUE.due(call, got, want);
    }

    private static void newObject() {
        SpokenBite b = new SpokenBite();
        int[] wanted = {0, 0, 0, 0, -1, 0, 0, 0, 0, -1, 0, 0, 0, 0};
        for (int what = 0; what < wanted.length; what++) {
            due("new: count " + what, b.count(what), wanted[what]);
        }
        due("NONE", SpokenBite.NONE, -1);
        due("new: dish", b.dish(0, 0), -3);
        due("new: guest", b.guest(0, 0), -1);
        due("new: throat", b.throat(0), -2);
        due("new: minute", b.minute(), -1);
        due("new: force", b.force(-1), -1);
        due("new: force 0", b.force(0), -2);
    }

    private static void feed() {
        SpokenBite b = new SpokenBite();
        for (int i = 1; i <= 19; i++) {
            due("feed", b.feed(0, 0, 0, 0, 0), 20 * i);
        }
        due("end", b.end(361), 361);
        due("feed 381", b.feed(0, 0, 0, 0, 0), 381);
        due("feed over 400", b.feed(0, 0, 0, 0, 0), -1);
        due("none came", b.count(13), 381);
        b.end(380);
        due("feed to 400", b.feed(0, 0, 0, 0, 0), 400);
        due("feed over 400", b.feed(0, 0, 0, 0, 0), -1);
        due("none came", b.count(13), 400);
        SpokenBite high = new SpokenBite();
        // "dinner 6" is its highest byte first
        high.feed(0x64696e6e, 0x65722036, 0x20202020, 0x20202020, 0x20202020);
        due("highest first", high.dinner(), 0);
        due("deep", high.count(0), 6);
        high.feed(0x64696e6e, 0x65722036, 0x80000000, 0, 0);
        due("a byte above 127", high.dinner(), Due.faulty(8, 0));
    }

    private static void end() {
        SpokenBite b = new SpokenBite();
        due("end 1 of 0", b.end(1), -1);
        due("end 0 of 0", b.end(0), 0);
        b.feed(1, 2, 3, 4, 5);
        due("end 21", b.end(21), -1);
        due("end -1", b.end(-1), -1);
        due("nothing happened", b.count(13), 20);
        due("end 20", b.end(20), 20);
        due("end 7", b.end(7), 7);
        due("bytes", b.count(13), 7);
        due("end 8", b.end(8), -1);
    }

    private static void dinner() {
        SpokenBite b = new SpokenBite();
        due("dinner", Due.dinnerOf(b, "dinner 3;dish 5 0;dish 9 1;guest 4;clash 1 0;clash 0 1;dish 20 7;guest 20;guest 0"), 3);
        due("the tape is empty", b.count(13), 0);
        due("deep", b.count(0), 3);
        due("dishes", b.count(1), 3);
        due("guests", b.count(2), 3);
        due("minute", b.count(5), 0);
        due("table", b.count(6), 7);
        due("sitting", b.count(7), 7);
        due("loud", b.dish(2, 0), 20);
        due("says", b.dish(2, 1), 7);
        due("ears", b.guest(1, 0), 20);
        due("clash", b.clashes(0), 2);
        b.seed(77);
        Due.ruleOf(b, "eat 1");
        b.force(0);
        b.note(3, 0, 0, 1);
        b.minute();
        b.offer(2);
        due("undo is there", b.count(11), 2);
        due("a faulty one", Due.dinnerOf(b, "dinner 3 dish"), Due.faulty(9, 0));
        due("all stays: tape", b.count(13), 13);
        due("all stays: minute", b.count(5), 1);
        due("all stays: notes", b.count(10), 1);
        due("all stays: dishes", b.count(1), 3);
        due("all stays: undo", b.count(11), 2);
        due("another", Due.dinnerOf(b, "  dinner00001  ;dish0 0;  "
            + "guest 5 "), 1);
        due("no notes", b.count(10), 0);
        due("no undo", b.count(11), 0);
        due("minute 0", b.count(5), 0);
        due("nothing offered", b.count(9), -1);
        due("the rule stays", b.count(4), 0);
        due("x stays", b.count(12), 77);
        due("no clash", b.clashes(0), 0);
        due("deep 1", b.count(0), 1);
        due("only a dinner", Due.dinnerOf(b, "dinner 6"), 0);
    }

    private static void faulty(String text, int place, int kind) {
        SpokenBite b = new SpokenBite();
        due("dinner of " + text, Due.dinnerOf(b, text), Due.faulty(place, kind));
    }

    private static void dinnerFaults() {
        faulty("", 0, 0);
        faulty("   ", 3, 0);
        faulty("dinner", 6, 0);
        faulty("dinner  ", 8, 0);
        faulty("dinners 1", 0, 0);
        faulty("Dinner 1", 0, 0);
        faulty("eat 1", 0, 0);
        faulty("1", 0, 0);
        faulty(" dish 1 2", 1, 4);
        faulty("guest 1", 0, 4);
        faulty("clash 1 2;dinner 3", 0, 4);
        faulty("dinner 0", 7, 1);
        faulty("dinner 7", 7, 1);
        faulty("dinner 000001", 7, 1);
        faulty("dinner 3;", 9, 0);
        faulty("dinner 3; ", 10, 0);
        faulty("dinner 3;;", 9, 0);
        faulty("dinner 3 4", 9, 0);
        faulty("dinner 3 444444", 9, 0);
        faulty("dinner 3,", 8, 0);
        faulty("dinner 3; dinner 3", 10, 4);
        faulty("dinner 3;dish 21 0", 14, 1);
        faulty("dinner 3;dish 20 8", 17, 1);
        faulty("dinner 3;dish 99999 8", 14, 1);
        faulty("dinner 3;dish 20", 16, 0);
        faulty("dinner 3;dish 20;", 16, 0);
        faulty("dinner 3;dish x", 14, 0);
        faulty("dinner 3;dishx", 9, 0);
        faulty("dinner 3;guest 21", 15, 1);
        faulty("dinner 3;guest", 14, 0);
        faulty("dinner 3;clash 8 0", 15, 1);
        faulty("dinner 3;clash 7 8", 17, 1);
        faulty("dinner 3;clash 7 7", 17, 1);
        faulty("dinner 3;clash 7 7 7", 17, 1);
        faulty("dinner 3;clash 7", 16, 0);
        faulty("dinner 3;clash 00 00000", 18, 1);
        faulty("dinner 3\u0000", 8, 0);
        faulty("dinner\t3", 6, 0);
    }

    private static void dinnerLimits() {
        SpokenBite b = new SpokenBite();
        String eight = "dinner 3" + ";dish 1 1".repeat(8);
        due("8 dishes", Due.dinnerOf(b, eight), 8);
        due("9 dishes", Due.dinnerOf(b, eight + "; dish 1 1"), Due.faulty(82, 4));
        due("9 dishes, cut", Due.dinnerOf(b, eight + ";dish"), Due.faulty(81, 4));
        due("9 dishes, not one", Due.dinnerOf(b, eight + ";dished"), Due.faulty(81, 0));
        String five = "dinner 3" + ";guest 1".repeat(5);
        due("5 guests", Due.dinnerOf(b, five), 0);
        due("6 guests", Due.dinnerOf(b, five + ";guest 99"), Due.faulty(49, 4));
        String forty = "dinner 3" + ";clash 1 2".repeat(39);
        String short40 = "dinner 3" + ";clash1 2".repeat(39);
        due("39 clashes", forty.length(), 398);
        due("40 clauses", Due.dinnerOf(b, forty), 0);
        due("41 clauses", Due.dinnerOf(b, short40 + ";guest 1"), Due.faulty(360, 4));
        due("41 clauses, a second dinner", Due.dinnerOf(b, short40 + ";dinner"), Due.faulty(360, 4));
        due("41 clauses, not one", Due.dinnerOf(b, short40 + ";x"), Due.faulty(360, 0));
        due("41 clauses, the end", Due.dinnerOf(b, short40 + ";"), Due.faulty(360, 0));
    }

    private static void rule() {
        SpokenBite b = new SpokenBite();
        for (int i = 0; i < 6; i++) {
            due("rule", Due.ruleOf(b, "eat " + i), i);
            due("the tape is empty", b.count(13), 0);
        }
        due("a seventh", Due.ruleOf(b, "eat 1"), -1);
        due("the tape stays", b.count(13), 5);
        due("six", b.count(3), 6);
        SpokenBite c = new SpokenBite();
        due("a fault", Due.ruleOf(c, "eat"), Due.faulty(3, 0));
        due("the tape stays", c.count(13), 3);
        due("no rule", c.count(3), 0);
        due("not in force", c.count(4), -1);
        due("behind a fault", Due.ruleOf(c, "eat1"), 0);
        due("not in force by that", c.count(4), -1);
    }

    private static void bad(String text, int place, int kind) {
        SpokenBite b = new SpokenBite();
        due("rule of " + text, Due.ruleOf(b, text), Due.faulty(place, kind));
    }

    private static void good(String text) {
        SpokenBite b = new SpokenBite();
        due("rule of " + text, Due.ruleOf(b, text), 0);
    }

    private static void ruleFaults() {
        bad("", 0, 0);
        bad("  ", 2, 0);
        bad("eats 1", 0, 0);
        bad("eatz 1", 0, 0);
        bad("eata 1", 0, 0);
        bad("dinner 3", 0, 0);
        bad("eat ", 4, 0);
        bad("eat;", 3, 0);
        bad("eat if", 4, 0);
        bad("eat 1 2", 6, 0);
        bad("eat 1 222222", 6, 0);
        bad("eat 123456", 4, 1);
        bad("eat 12345+000000", 10, 1);
        bad("eat 1+", 6, 0);
        bad("eat 1++1", 6, 0);
        bad("eat -1", 4, 0);
        bad("eat [1]", 4, 0);
        bad("eat louder", 4, 0);
        bad("eat 1 if", 8, 0);
        bad("eat 1 if ", 9, 0);
        bad("eat 1 if 1", 10, 0);
        bad("eat 1 if 1 and 2", 11, 0);
        bad("eat 1 if 1=", 11, 0);
        bad("eat 1 if 1==1", 11, 0);
        bad("eat 1 if 1=<1", 11, 0);
        bad("eat 1 if 1< =1", 12, 0);
        bad("eat 1 if 1<>1", 11, 0);
        bad("eat 1 if 1<1<1", 12, 0);
        bad("eat 1 if 1!1", 10, 0);
        bad("eat 1 if [1=1", 13, 0);
        bad("eat 1 if [1=1;", 13, 0);
        bad("eat 1 if 1=1]", 12, 0);
        bad("eat 1 if [1]=1", 11, 0);
        bad("eat 1 if []", 10, 0);
        bad("eat 1 if [1=1]+1", 14, 0);
        bad("eat 1 if not", 12, 0);
        bad("eat 1 if nots=1", 9, 0);
        bad("eat 1 if 1=1 and", 16, 0);
        bad("eat 1 if 1=1 andor", 13, 0);
        bad("eat 1 if 1=1 if 1=1", 13, 0);
        bad("eat 1 if 1=1;", 13, 0);
        bad("eat 1 and 1=1", 6, 0);
        bad("eat 1;eat", 9, 0);
        bad("eat 1;x", 6, 0);
        bad("eat 1 if 1=123456", 11, 1);
        good("eat1*dish/2%3-4+99999");
        good(" eat dish+loud*says if known<clashes and left<=throat or not top=sitting and[minute>=1 or 1>2] ; eat 1 ");
        good("eat 1if1=1and1=1or not[1=1]");
    }

    private static void ruleLimits() {
        good("eat 1 if " + "[".repeat(10) + "1=1" + "]".repeat(10));
        bad("eat 1 if " + "[".repeat(11) + "1=1" + "]".repeat(11), 19, 2);
        good("eat 1 if " + "not ".repeat(10) + "1=1");
        bad("eat 1 if " + "not ".repeat(11) + "1=1", 49, 2);
        good("eat 1 if not[".repeat(1) + "not[".repeat(4) + "1=1" + "]".repeat(5) + " and not [1=1]");
        bad("eat 1 if " + "not[".repeat(5) + "1=1 and not 2=2", 37, 2);
        bad("eat 1 if " + "not[".repeat(5) + "1=1 and [2=2", 37, 2);
        good("eat 1 if " + "not[".repeat(4) + "not[1=1]" + "]".repeat(4) + "and not[1=1]");
        good("eat 1" + "+1".repeat(59));
        bad("eat 1" + "+1".repeat(60), 124, 3);
        bad("eat 1" + "+1".repeat(59) + "+ 123456", 125, 1);
        bad("eat 1" + "+1".repeat(59) + "+ loudly", 125, 0);
        bad("eat 1" + "+1".repeat(59) + "+", 124, 0);
        good("eat 1" + "+1".repeat(56) + " if 1=1");
        bad("eat 1" + "+1".repeat(57) + " if 1=1", 125, 3);
        bad("eat 1" + "+1".repeat(58) + " if 1<=1", 126, 3);
        bad("eat 1" + "+1".repeat(59) + " if 1=1", 127, 3);
        good("eat 1+1+1+1+1;".repeat(11) + "eat 1+1+1+1+1");
        bad("eat 1+1+1+1+1;".repeat(11) + "eat 1+1+1+1+1+1", 168, 3);
        good("eat 1;".repeat(11) + "eat 1");
        bad("eat 1;".repeat(12) + " eat 1", 73, 4);
        bad("eat 1;".repeat(12) + "ate 1", 72, 0);
        bad("eat 1;".repeat(12), 72, 0);
    }

    /** Which DISH he eats in MINUTE 1 by a RULE. */
    private static void eaten(String rule, int want) {
        SpokenBite b = new SpokenBite();
        Due.dinnerOf(b, "dinner 4;dish 7 3;dish 6 2;dish 5 5;guest 6;guest 0;guest 9;clash 2 3;clash 2 5;clash 3 5");
        b.minute();
        b.tell(2, 3);
        due("rule " + rule, Due.ruleOf(b, rule), 0);
        b.force(0);
        b.minute();
        due("eaten by " + rule, b.throat(1), want);
    }

    /** In the throat is DISH 0 in PLACE 1; GUESTS KNOW 3, 3 and 3; on the table are DISHES 1 and 2. */
    private static void worth() {
        eaten("eat 1", 1);
        eaten("eat 0", -1);
        eaten("eat 0-1", -1);
        eaten("eat dish", 2);
        eaten("eat 3-dish", 1);
        eaten("eat dish-1", 2);
        eaten("eat dish-2", -1);
        eaten("eat loud", 1);
        eaten("eat says", 2);
        eaten("eat 2-1-1", -1);
        eaten("eat 2-1+1*dish", 2);
        eaten("eat 1+2*3-7+dish", 2);
        eaten("eat 8/2/4-1+dish/2", 2);
        eaten("eat 7%4*2-6+dish%2", 1);
        eaten("eat 5/0+5%0+dish%2", 1);
        eaten("eat 5/0", -1);
        eaten("eat 5%0", -1);
        eaten("eat 9-5-3+dish-1-1", 2);
        eaten("eat 1-5+4-1", -1);
        eaten("eat 2/dish*dish-1", 1);
        eaten("eat 0-7/2+3+dish%2", 1);
        eaten("eat 0-7%4+3+dish%2", 1);
        eaten("eat 1-2*99999*99999*99999*99999/99999/99999/99999/99999", 1);
        eaten("eat 1 if dish=2", 2);
        eaten("eat 1 if dish=3", -1);
        eaten("eat 1 if dish=3;eat dish", 2);
        eaten("eat 0 if dish=2;eat dish", 1);
        eaten("eat 9;eat 9 if dish=2", 1);
        eaten("eat 1 if known=3", -1);
        eaten("eat 1 if known=0", 1);
        eaten("eat 1 if known=0 and dish=2", 2);
        eaten("eat 1 if clashes=1 and dish=2", 2);
        eaten("eat 1 if clashes=1", 1);
        eaten("eat 1 if left=2", 1);
        eaten("eat 1 if throat=1", 1);
        eaten("eat 1 if top=7", 1);
        eaten("eat 1 if sitting=3", 1);
        eaten("eat 1 if minute=1", 1);
        eaten("eat 1 if 1<1 or 1<=0 or 1>=2 or 1>1 or 1=2", -1);
        eaten("eat 1 if 1<2 and 1<=1 and 1>=1 and 2>1 and 1=1", 1);
        eaten("eat 1 if 1=1 or 1=1 and 1=2", 1);
        eaten("eat 1 if [1=1 or 1=1] and 1=2", -1);
        eaten("eat 1 if not 1=1 or 1=1", 1);
        eaten("eat 1 if not [1=1 or 1=1]", -1);
        eaten("eat 1 if not not dish=2 and not dish=1", 2);
        eaten("eat 1 if 1=2 and 1=2 or 1=1", 1);
        eaten("eat 1 if 1=2 or 1=2 or dish=2", 2);
        eaten("eat 1 if dish=2 or 1=2 or 1=2", 2);
        eaten("eat 1 if dish=2 or 1=1 and 1=2 or 1=2 and 1=1", 2);
        SpokenBite b = new SpokenBite();
        Due.dinnerOf(b, "dinner 2;dish 6 1;dish 6 2;dish 6 3;guest 0;guest 0;guest 0;guest 0;clash 5 6");
        b.tell(0, 3);
        b.tell(1, 3);
        b.tell(2, 2);
        b.tell(3, 2);
        b.tell(3, 5);
        Due.ruleOf(b, "eat known if top=0;eat 1 if top=6 and known=3");
        b.force(0);
        due("2 is known by two, 3 by two: the least", b.minute(), 2);
        due("known by all now", b.minute(), 2);
        b.undo();
        b.undo();
        b.tell(3, 6);
        b.tell(3, 3);
        Due.ruleOf(b, "eat known-2");
        b.force(1);
        due("3 is known by three", b.minute(), 4);
        b.undo();
        b.offer(0);
        b.minute();
        due("who has left counts not", b.minute() & 6, 0);
    }
}
