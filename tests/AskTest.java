/** Promises 17 to 34: what is asked, NOTES and DRAWS. All answers are worked out by hand. */
final class AskTest {
    private static final Due DUE = new Due();
    private static final String PLAIN = "dinner 3;dish 5 0;dish 9 1;dish 7 2;guest 4;guest 8;clash 0 1";

    public static void main(String[] args) {
        ahead();
        said();
        quiet();
        knowing();
        bestRow();
        hush();
        rows();
        believed();
        dropped();
        leftOut();
        rests();
        crumbs();
        loudest();
        note();
        ruled();
        look();
        seed();
        hiccups();
        nothingChanges();
        withoutDinner();
        DUE.close();
    }

    private static void due(String call, long got, long want) {
        DUE.due(call, got, want);
    }

    private static SpokenBite at(String text) {
        SpokenBite b = new SpokenBite();
        Due.dinnerOf(b, text);
        return b;
    }

    private static void ahead() {
        SpokenBite b = at(PLAIN);
        due("now", b.ahead(0, 0, 0), 0);
        due("after 1", b.ahead(0, 1, 0), 1);
        due("after 2", b.ahead(0, 2, 0), 3);
        due("guest 1 after 2", b.ahead(1, 2, 0), 2);
        due("sitting after 1", b.ahead(0, 1, 1), 3);
        due("sitting after 2", b.ahead(9, 2, 1), 2);
        due("table after 2", b.ahead(-7, 2, 2), 4);
        due("after 100", b.ahead(1, 100, 0), 2);
        due("101", b.ahead(1, 101, 0), -1);
        due("-1", b.ahead(1, -1, 0), -1);
        due("guest 2", b.ahead(2, 1, 0), -1);
        due("guest -1", b.ahead(-1, 1, 0), -1);
        due("what 3", b.ahead(0, 1, 3), -1);
        due("what -1", b.ahead(0, 1, -1), -1);
        b.offer(2);
        due("the offered one first", b.ahead(0, 1, 0), 4);
        Due.ruleOf(b, "eat 0");
        b.force(0);
        due("then by the rule", b.ahead(0, 9, 2), 3);
    }

    private static void said() {
        SpokenBite b = at(PLAIN);
        due("0", b.said(0), 0);
        due("1", b.said(1), 1);
        due("2", b.said(2), 4);
        due("3", b.said(3), -2);
        due("8", b.said(8), -1);
        due("-1", b.said(-1), -1);
        b.minute();
        due("0 is louder no more", b.said(0), -2);
        due("1 in this minute", b.said(1), 1);
        due("2 later", b.said(2), 4);
        Due.ruleOf(b, "eat 1 if minute=100");
        Due.ruleOf(b, "eat 1 if minute=101");
        b.force(0);
        due("the hundredth minute", b.said(1), 100);
        b.force(1);
        due("the minute behind it", b.said(1), -2);
    }

    private static void quiet() {
        SpokenBite b = at(PLAIN);
        due("now", b.quiet(), 0);
        b.minute();
        due("later", b.quiet(), 5);
        Due.ruleOf(b, "eat 1 if minute=3");
        b.force(0);
        due("between", b.quiet(), 3);
    }

    private static void knowing() {
        SpokenBite b = at(PLAIN);
        due("nobody", b.knowing(1), 0);
        b.minute();
        b.minute();
        due("one left, one sits", b.knowing(1), 3);
        due("one left", b.knowing(0), 1);
        due("8", b.knowing(8), -1);
        due("-1", b.knowing(-1), -1);
    }

    private static void bestRow() {
        SpokenBite b = at(PLAIN);
        due("1 minute", b.bestRow(1, 0), 2);
        due("1 minute: dish", b.bestRow(1, 1), 1);
        due("1 minute: 2", b.bestRow(1, 2), -2);
        due("2 minutes", b.bestRow(2, 0), 3);
        due("2 minutes: first", b.bestRow(2, 1), 2);
        due("2 minutes: second", b.bestRow(2, 2), 1);
        due("2 minutes: third", b.bestRow(2, 3), -2);
        due("none ahead of dish 0", b.bestRow(3, 1), -1);
        due("3 minutes", b.bestRow(3, 0), 3);
        due("3 minutes: second", b.bestRow(3, 2), 2);
        due("3 minutes: third", b.bestRow(3, 3), 1);
        due("4 minutes: 4", b.bestRow(4, 4), 1);
        due("n 0", b.bestRow(0, 0), -3);
        due("n 5", b.bestRow(5, 0), -3);
        due("what -1", b.bestRow(1, -1), -3);
        due("what 5", b.bestRow(4, 5), -3);
        b.offer(0);
        due("in place of the offered", b.bestRow(2, 1), 2);
        due("still offered", b.count(9), 0);
        SpokenBite gone = at("dinner 1;dish 5 0;guest 0;guest 0;clash 0 1");
        gone.tell(0, 1);
        due("only who sits then", gone.bestRow(1, 0), 1);
        due("none is as good", gone.bestRow(1, 1), -1);
    }

    private static void hush() {
        SpokenBite b = at(PLAIN);
        due("1 minute", b.hush(1, 0), 1);
        due("1 minute: dish", b.hush(1, 1), 0);
        due("2 minutes", b.hush(2, 0), 1);
        due("2 minutes: first", b.hush(2, 1), 2);
        due("2 minutes: second", b.hush(2, 2), 0);
        due("2 minutes: third", b.hush(2, 3), -2);
        due("n 0", b.hush(0, 0), -3);
        due("n 5", b.hush(5, 0), -3);
        due("what -1", b.hush(1, -1), -3);
        due("what 5", b.hush(4, 5), -3);
        SpokenBite few = at("dinner 1;dish 5 0;guest 0;clash 0 1");
        due("as long as any is there", few.hush(2, 1), 0);
        due("none then", few.hush(2, 2), -1);
        few.tell(0, 1);
        due("who left counts", few.hush(1, 0), 2);
    }

    private static void rows() {
        SpokenBite b = at("dinner 1;dish 5 0;dish 6 1;dish 7 2;dish 8 3;guest 5;guest 8");
        due("all", b.rows(0), 24);
        due("the first", b.rows(1), 0);
        due("its last", b.rows(4), 3);
        b.minute();
        b.offer(3);
        due("whatever was done by hand", b.rows(0), 24);
        b.note(1, 0, 2, 1);
        due("2 first", b.rows(0), 6);
        b.note(2, 1, 3, 1);
        due("and 3 soon", b.rows(0), 2);
        due("first", b.rows(1), 2);
        due("second", b.rows(2), 3);
        due("third", b.rows(3), 0);
        due("fourth", b.rows(4), 1);
        due("what 5", b.rows(5), -1);
        due("what -1", b.rows(-1), -1);
        b.note(4, 0, 0, 0);
        due("no row", b.rows(0), 0);
        due("none", b.rows(1), -2);
        due("none", b.rows(4), -2);
        due("three dishes", at(PLAIN).rows(0), 0);
        due("three dishes", at(PLAIN).rows(1), -2);
        SpokenBite five = at("dinner 1;dish 5 0;dish 5 1;dish 5 2;dish 5 3;dish 5 4;guest 0");
        due("all", five.rows(0), 120);
        five.note(5, 0, 0, 0);
        due("the fifth is eaten", five.rows(0), 0);
        Due.ruleOf(five, "eat 0");
        five.force(0);
        due("not by the rule", five.rows(0), 24);
        due("without 0", five.rows(1), 1);
        five.note(60, 0, 1, 0);
        due("60 is too late for 1", five.rows(0), 0);
        five.note(0, 0, 1, 1);
        due("at the begin nothing is known", five.rows(0), 0);
    }

    private static void believed() {
        SpokenBite b = at("dinner 1;guest 0;guest 0;clash 0 1;clash 1 2;clash 3 4;clash 6 7");
        due("nothing", b.believed(0), 0);
        due("nothing", b.believed(1), 0);
        for (int secret = 0; secret < 5; secret++) {
            b.tell(secret % 2, secret);
        }
        due("0, 2 and 3", b.believed(0), 13);
        due("three", b.believed(1), 3);
        b.minute();
        due("who left", b.believed(0), 13);
        due("what 2", b.believed(2), -1);
        due("what -1", b.believed(-1), -1);
    }

    private static void dropped() {
        SpokenBite b = at("dinner 1;clash 0 1;clash 1 2;clash 3 4;clash 6 7");
        due("1, 3 and 6", b.dropped(0), 2 + 8 + 64);
        due("three", b.dropped(1), 3);
        due("what 2", b.dropped(2), -1);
        due("what -1", b.dropped(-1), -1);
        due("no clash", at("dinner 1").dropped(0), 0);
        due("no clash", at("dinner 1").dropped(1), 0);
    }

    private static void leftOut() {
        SpokenBite b = at(PLAIN);
        due("sit", b.leftOut(5, 0), 2);
        due("know", b.leftOut(5, 1), 3);
        due("without 0", b.leftOut(5, 2), 0);
        due("none, in one minute: without 0 is louder", b.leftOut(1, 2), 0);
        due("two know", b.leftOut(1, 1), 2);
        due("n 0", b.leftOut(0, 0), -1);
        due("n 41", b.leftOut(41, 0), -1);
        due("n 40", b.leftOut(40, 0), 2);
        due("what 3", b.leftOut(1, 3), -1);
        due("what -1", b.leftOut(1, -1), -1);
        b.offer(0);
        due("nor be offered", b.leftOut(5, 2), 0);
        b.minute();
        due("not on the table", b.leftOut(5, 2), 1);
        due("still sit", b.leftOut(5, 0), 2);
        due("none is best", at("dinner 1;dish 5 0;guest 0").leftOut(3, 2), -2);
        due("as good", at("dinner 1;dish 5 0;guest 9").leftOut(3, 2), -2);
    }

    private static void rests() {
        SpokenBite b = at(PLAIN);
        due("4 in two minutes", b.rests(0, 1, 2, 0), 4);
        due("6", b.rests(0, 1, 2, 1), 6);
        due("6", b.rests(0, 1, 2, 2), 6);
        due("4 in one", b.rests(1, 0, 1, 0), 4);
        due("0", b.rests(1, 0, 1, 1), 0);
        due("0", b.rests(1, 0, 1, 2), 0);
        due("unlike", b.rests(1, 1, 1, 0), -1);
        due("guest 2", b.rests(0, 2, 1, 0), -1);
        due("guest -1", b.rests(-1, 0, 1, 0), -1);
        due("n 0", b.rests(0, 1, 0, 0), -1);
        due("n 21", b.rests(0, 1, 21, 0), -1);
        due("what 3", b.rests(0, 1, 1, 3), -1);
        due("what -1", b.rests(0, 1, 1, -1), -1);
        due("ears stay", b.guest(0, 0), 4);
        SpokenBite uneven = at("dinner 1;dish 7 0;dish 2 1;guest 0;guest 0;clash 0 1");
        uneven.tell(1, 1);
        due("one: at most 6, two: not to hear 7", uneven.rests(0, 1, 1, 0), 6);
        due("0 for the first", uneven.rests(0, 1, 1, 1), 0);
        due("9 for the second", uneven.rests(0, 1, 1, 2), 9);
        due("the other way round", uneven.rests(1, 0, 1, 1), 9);
        // EARS 0 leave with 3 by DISH 2, 3 and 6 by DISH 3, 9 and 12 by DISH 4; he eats no more as soon as one has left:
        // to 0 the best answer is 3, to 3 and 6 it is 9, to 9 and 12 it is 0
        SpokenBite round = at("dinner 1;dish 2 5;dish 1 2;dish 7 4;dish 13 3;dish 12 2;guest 0;guest 0;clash 3 2;clash 4 3;clash 5 4");
        Due.ruleOf(round, "eat sitting-1");
        round.force(0);
        due("no rest", round.rests(0, 1, 6, 0), 0);
        due("no rest", round.rests(0, 1, 6, 1), -2);
        due("no rest", round.rests(0, 1, 6, 2), -2);
    }

    private static void crumbs() {
        SpokenBite b = at("dinner 1;guest 0;guest 0;guest 0;clash 0 1");
        due("nobody knows any", b.crumbs(10, 0), 0);
        b.tell(0, 0);
        b.tell(0, 1);
        b.tell(1, 1);
        b.minute();
        due("20 / 3 and 1", b.crumbs(10, 0), 7);
        due("10 / 3", b.crumbs(10, 1), 3);
        due("knows none", b.crumbs(10, 2), 0);
        b.tell(1, 2);
        b.tell(2, 2);
        b.tell(2, 3);
        due("a third, the first of these first", b.crumbs(11, 0), 4);
        due("a third, one more", b.crumbs(11, 1), 4);
        due("a third", b.crumbs(11, 2), 3);
        due("0", b.crumbs(0, 0), 0);
        due("9999", b.crumbs(9999, 0), 3333);
        due("10000", b.crumbs(10000, 0), -1);
        due("-1", b.crumbs(-1, 0), -1);
        due("guest 3", b.crumbs(1, 3), -1);
        due("guest -1", b.crumbs(1, -1), -1);
    }

    private static void loudest() {
        SpokenBite b = at(PLAIN);
        due("1 minute", b.loudest(1, 0), 5);
        due("minute 0", b.loudest(1, 1), 0);
        due("100 minutes", b.loudest(100, 0), 9);
        due("minute 1", b.loudest(100, 1), 1);
        due("n 0", b.loudest(0, 0), -1);
        due("n 101", b.loudest(101, 0), -1);
        due("what 2", b.loudest(1, 2), -1);
        due("what -1", b.loudest(1, -1), -1);
        for (int i = 0; i < 5; i++) {
            b.minute();
        }
        due("nothing", b.loudest(9, 0), 0);
        due("nothing", b.loudest(9, 1), -2);
        SpokenBite same = at("dinner 1;dish 4 0;dish 4 1");
        due("the first of the same", same.loudest(2, 1), 0);
    }

    private static void note() {
        SpokenBite b = at(PLAIN);
        due("n 61", b.note(61, 0, 0, 1), -2);
        due("n -2", b.note(-2, 0, 0, 1), -2);
        due("guest 2", b.note(0, 2, 0, 1), -2);
        due("guest -1", b.note(0, -1, 0, 1), -2);
        due("secret 8", b.note(0, 0, 8, 1), -2);
        due("secret -1", b.note(0, 0, -1, 1), -2);
        due("knows 2", b.note(0, 0, 0, 2), -2);
        due("knows -1", b.note(0, 0, 0, -1), -2);
        for (int i = 1; i <= 10; i++) {
            due("note", b.note(6 * i, i % 2, i % 8, i % 2), i);
        }
        due("an eleventh", b.note(0, 0, 0, 0), -2);
        due("ten", b.count(10), 10);
        due("none then", b.note(-1, 9, 9, 9), 0);
        due("none", b.count(10), 0);
        due("no act", b.count(11), 0);
        due("again", b.note(0, 0, 0, 0), 1);
    }

    private static SpokenBite ruledDinner() {
        SpokenBite b = at(PLAIN);
        Due.ruleOf(b, "eat 10-dish");
        Due.ruleOf(b, "eat 1+dish");
        Due.ruleOf(b, "eat 0");
        return b;
    }

    private static void ruled() {
        SpokenBite b = ruledDinner();
        due("all", b.ruled(0), 4);
        due("none is the first", b.ruled(1), -1);
        b.offer(2);
        b.minute();
        b.force(2);
        b.note(1, 0, 0, 1);
        due("none and 0", b.ruled(0), 2);
        due("none", b.ruled(1), -1);
        b.note(-1, 0, 0, 0);
        b.note(1, 0, 2, 1);
        due("only 1", b.ruled(0), 1);
        due("1", b.ruled(1), 1);
        b.note(-1, 0, 0, 0);
        b.note(60, 0, 2, 0);
        due("not 1: that lets guest 0 know 2", b.ruled(0), 3);
        b.note(60, 1, 1, 0);
        due("only 2 stays silent", b.ruled(1), 2);
        b.note(0, 0, 0, 1);
        due("nothing fits", b.ruled(0), 0);
        due("nothing fits", b.ruled(1), -2);
        due("what 2", b.ruled(2), -3);
        due("what -1", b.ruled(-1), -3);
    }

    private static void look() {
        SpokenBite b = ruledDinner();
        due("at the begin all are alike", b.look(0, 1), 4);
        due("the least guest", b.look(0, 0), 0);
        due("behind 1", b.look(1, 0), 0);
        due("two alike", b.look(1, 1), 2);
        b.note(1, 0, 0, 1);
        due("two that never part", b.look(60, 1), 2);
        b.note(0, 0, 0, 1);
        due("nothing fits", b.look(1, 0), -2);
        due("nothing fits", b.look(1, 1), -2);
        due("n 61", b.look(61, 0), -1);
        due("n -1", b.look(-1, 0), -1);
        due("what 2", b.look(1, 2), -1);
        due("what -1", b.look(1, -1), -1);
        due("no guests", at("dinner 1;dish 3 3").look(1, 0), -2);
        SpokenBite second = at("dinner 1;dish 3 3;dish 7 4;guest 9;guest 3;guest 0");
        Due.ruleOf(second, "eat loud");
        due("guest 1 parts them first", second.look(1, 0), 1);
        due("one each", second.look(1, 1), 1);
    }

    private static void seed() {
        SpokenBite b = new SpokenBite();
        due("seed", b.seed(2147483647), 0);
        due("seed -1", b.seed(-1), -1);
        due("stays", b.count(12), 2147483647);
        due("seed 0", b.seed(0), 2147483647);
    }

    private static void hiccups() {
        SpokenBite b = at(PLAIN);
        due("without any: sit", b.hiccups(2, 5, 0, 0), 2);
        due("without any: know", b.hiccups(2, 5, 0, 1), 6);
        due("x stays", b.count(12), 0);
        due("m 0", b.hiccups(0, 5, 0, 0), -1);
        due("m 11", b.hiccups(11, 5, 0, 0), -1);
        due("n 0", b.hiccups(1, 0, 0, 0), -1);
        due("n 61", b.hiccups(1, 61, 0, 0), -1);
        due("p -1", b.hiccups(1, 1, -1, 0), -1);
        due("p 101", b.hiccups(1, 1, 101, 0), -1);
        due("what 2", b.hiccups(1, 1, 1, 2), -1);
        due("what -1", b.hiccups(1, 1, 1, -1), -1);
        // x 0: the draws are 0, 21468, 9988, 22117, 3498: a hiccup ahead of the first minute is of PLACE 0
        SpokenBite deep = at("dinner 2;dish 5 0;dish 9 1;guest 4");
        due("mod 2: nothing in 0, then 1 comes up again", deep.hiccups(1, 2, 100, 1), 1);
        due("without: both are said", deep.hiccups(1, 2, 0, 1), 2);
        due("nothing stays", deep.count(6), 3);
    }

    private static void nothingChanges() {
        SpokenBite b = at(PLAIN);
        b.offer(1);
        b.minute();
        b.ahead(0, 50, 0);
        b.said(1);
        b.quiet();
        b.bestRow(4, 0);
        b.hush(4, 0);
        b.rows(0);
        b.leftOut(9, 0);
        b.rests(0, 1, 9, 0);
        b.loudest(9, 0);
        b.ruled(0);
        b.look(9, 0);
        b.hiccups(9, 9, 50, 0);
        due("minute", b.count(5), 1);
        due("table", b.count(6), 5);
        due("sitting", b.count(7), 3);
        due("known", b.count(8), 2);
        due("throat", b.throat(1), 1);
        due("acts", b.count(11), 2);
        due("ears", b.guest(0, 0), 4);
        due("it goes on", b.minute(), 2);
        due("by dish 0", b.dish(0, 2), 1);
    }

    private static void withoutDinner() {
        SpokenBite b = new SpokenBite();
        due("ahead", b.ahead(0, 0, 1), -1);
        due("said", b.said(0), -1);
        due("quiet", b.quiet(), -1);
        due("knowing", b.knowing(0), -1);
        due("bestRow", b.bestRow(1, 0), -3);
        due("bestRow", b.bestRow(1, 2), -3);
        due("hush", b.hush(1, 0), -3);
        due("rows", b.rows(0), -1);
        due("believed", b.believed(0), -1);
        due("dropped", b.dropped(0), -1);
        due("leftOut", b.leftOut(1, 0), -1);
        due("rests", b.rests(0, 1, 1, 0), -1);
        due("crumbs", b.crumbs(1, 0), -1);
        due("loudest", b.loudest(1, 0), -1);
        due("note", b.note(0, 0, 0, 0), -2);
        due("no notes", b.note(-1, 0, 0, 0), 0);
        due("ruled", b.ruled(0), -3);
        due("look", b.look(0, 0), -1);
        due("hiccups", b.hiccups(1, 1, 0, 0), -1);
    }
}
