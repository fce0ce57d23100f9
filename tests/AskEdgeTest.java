import java.util.ArrayList;
import java.util.List;

/** What is asked of a DINNER, promises 17 to 29, sentence by sentence: each limit on both sides. */
final class AskEdgeTest {
    private static final Due DUE = new Due();
    private static final int LEAST = Integer.MIN_VALUE;
    private static final int MOST = Integer.MAX_VALUE;
    /** Three DISHES, each heard alone and by one GUEST. */
    private static final String THREE = "dinner 1;dish 5 0;dish 5 1;dish 5 2;guest 0";
    private static final String RING = ";clash 0 1;clash 1 2;clash 2 3;clash 3 4;clash 4 0";

    public static void main(String[] args) {
        nothingChanges();
        aheadLimits();
        aheadRefused();
        goesOnByTheRule();
        saidLimits();
        quietLimits();
        knowing();
        bestRowLimits();
        bestRowOfWhat();
        bestRowOrder();
        hushLimits();
        hushOfWhat();
        rowsLimits();
        rowsAndNotes();
        rowsAndTheRule();
        believed();
        dropped();
        leftOutLimits();
        leftOutOrder();
        leftOutOfWhat();
        restsLimits();
        restsByEars();
        restsOfWho();
        restsOfNone();
        restsBehindOtherTexts();
        crumbsLimits();
        crumbsOrder();
        loudestLimits();
        withoutDinner();
        bareDinner();
        DUE.close();
    }

    private static void due(String call, long got, long want) {
        DUE.due(call, got, want);
    }

    /** With RULES, the first of them IN FORCE. */
    private static SpokenBite at(String text, String... rules) {
        SpokenBite b = new SpokenBite();
        due("dinner of '" + text + "' is one", Due.dinnerOf(b, text) >= 0 ? 1 : 0, 1);
        for (int i = 0; i < rules.length; i++) {
            due("rule of '" + rules[i] + "'", Due.ruleOf(b, rules[i]), i);
            b.force(0);
        }
        return b;
    }

    /** "By what is asked nothing changes". */
    private static void nothingChanges() {
        List<Twin.Call> calls = new ArrayList<>();
        for (int i = 0; i <= 4; i++) {
            int what = i;
            calls.add(b -> b.ahead(1, 50, what));
            calls.add(b -> b.bestRow(3, what));
            calls.add(b -> b.hush(3, what));
            calls.add(b -> b.rows(what));
            calls.add(b -> b.believed(what));
            calls.add(b -> b.dropped(what));
            calls.add(b -> b.leftOut(40, what));
            calls.add(b -> b.rests(0, 1, 20, what));
            calls.add(b -> b.loudest(100, what));
            calls.add(b -> b.said(what));
            calls.add(b -> b.knowing(what));
            calls.add(b -> b.crumbs(100, what));
            calls.add(b -> b.ruled(what));
            calls.add(b -> b.look(20, what));
            calls.add(b -> b.hiccups(3, 20, 60, what));
            calls.add(b -> b.dish(1, what));
            calls.add(b -> b.guest(1, what));
            calls.add(b -> b.clashes(what));
            calls.add(b -> b.throat(what));
        }
        calls.add(SpokenBite::quiet);
        for (int i = 0; i < calls.size(); i++) {
            Twin.Call call = calls.get(i);
            Twin.changesNothing(DUE, "asked " + i, Twin::rich, call, call.on(Twin.rich()));
        }
    }

    /** "AHEAD n MINUTES (0 to 100): what a GUEST KNOWS, as bits; GUESTS who sit, as bits; DISHES on the table, as bits." */
    private static void aheadLimits() {
        SpokenBite b = at("dinner 1;dish 5 3;guest 0;clash 3 4", "eat 1 if minute=99");
        b.tell(0, 4);
        int[][] wanted = {{0, 16, 1, 1}, {1, 16, 1, 1}, {99, 16, 1, 1}, {100, 24, 0, 0}};
        for (int[] row : wanted) {
            due(row[0] + " ahead: KNOWS", b.ahead(0, row[0], 0), row[1]);
            due(row[0] + " ahead: sit", b.ahead(0, row[0], 1), row[2]);
            due(row[0] + " ahead: DISHES", b.ahead(0, row[0], 2), row[3]);
        }
        SpokenBite told = at("dinner 1;dish 5 3;guest 0;clash 5 4");
        told.tell(0, 4);
        told.tell(0, 5);
        due("0 ahead nobody LEAVES", told.ahead(0, 0, 1), 1);
        due("1 ahead they do", told.ahead(0, 1, 1), 0);
        due("and hear ahead of that", told.ahead(0, 1, 0), 56);
        SpokenBite rich = Twin.rich();
        due("OFFERED first", rich.ahead(0, 1, 2), 8);
        due("then by the RULE", rich.ahead(0, 2, 2), 0);
    }

    /** "(guest is not asked). NONE without these, or a DINNER." */
    private static void aheadRefused() {
        for (int guest : new int[] {-1, 3, 5, LEAST, MOST}) {
            due("guest " + guest, Twin.rich().ahead(guest, 1, 0), -1);
            due("guest is not asked", Twin.rich().ahead(guest, 1, 1), 2);
            due("guest is not asked", Twin.rich().ahead(guest, 1, 2), 8);
        }
        for (int what = 0; what < 3; what++) {
            for (int n : new int[] {-1, 101, LEAST, MOST}) {
                due("n " + n, Twin.rich().ahead(1, n, what), -1);
            }
        }
        for (int what : new int[] {-1, 3, LEAST, MOST}) {
            due("what " + what, Twin.rich().ahead(1, 1, what), -1);
        }
        due("the last GUEST", Twin.rich().ahead(2, 0, 0), 3);
        due("the first GUEST", Twin.rich().ahead(0, 0, 0), 3);
    }

    /** "MINUTES go on by the RULE IN FORCE": also behind MINUTES in which nothing is eaten. */
    private static void goesOnByTheRule() {
        SpokenBite leaves = at("dinner 1;dish 5 0;guest 0;guest 0;clash 6 7", "eat 1 if sitting=1");
        leaves.tell(0, 6);
        leaves.tell(0, 7);
        due("one LEAVES in the first MINUTE", leaves.ahead(0, 1, 2), 1);
        due("so that he eats in the second", leaves.ahead(0, 2, 2), 0);
        due("and that is heard", leaves.leftOut(2, 1), 3);
        SpokenBite throat = at("dinner 2;dish 5 0;dish 5 1;guest 0", "eat 1 if throat=0 and left=1");
        throat.offer(0);
        throat.minute();
        due("something is in the throat", throat.ahead(0, 1, 2), 2);
        due("nothing is", throat.ahead(0, 2, 2), 0);
        SpokenBite waits = at("dinner 1;dish 5 0;dish 5 1;guest 0", "eat minute-1 if minute<3");
        due("waits", waits.ahead(0, 2, 0), 0);
        due("eats", waits.ahead(0, 3, 0), 1);
        due("no more", waits.ahead(0, 100, 0), 1);
        SpokenBite noted = at("dinner 1;dish 5 0;guest 0", "eat 0", "eat 1 if minute=40");
        noted.note(40, 0, 0, 0);
        noted.note(41, 0, 0, 1);
        due("waits to be noted", noted.ruled(1), 1);
    }

    /** "SAID of a SECRET: the first MINUTE, this one the first, of 100, in which anything SPEAKS that SAYS it." */
    private static void saidLimits() {
        due("this one", at("dinner 1;dish 5 3").said(3), 0);
        due("the hundredth", at("dinner 1;dish 5 3", "eat 1 if minute=99").said(3), 99);
        due("one behind it", at("dinner 1;dish 5 3", "eat 1 if minute=100").said(3), -2);
        SpokenBite later = at("dinner 1;dish 5 3", "eat 1 if minute=100");
        later.minute();
        due("of 100 from MINUTE 1 on", later.said(3), 100);
        Due.ruleOf(later, "eat 1 if minute=101");
        later.force(1);
        due("one behind it", later.said(3), -2);
        due("what is never loud", at("dinner 3;dish 0 3").said(3), -2);
        due("what is never loudest", at("dinner 3;dish 9 2;dish 1 3", "eat 1 if minute<2").said(3), -2);
        SpokenBite both = at("dinner 2;dish 5 0;dish 4 3;dish 9 3");
        due("two at once", both.said(3), 1);
        due("the first SECRET", both.said(0), 0);
        due("the last SECRET", at("dinner 1;dish 1 7").said(7), 0);
        due("never told", both.said(7), -2);
        for (int secret : new int[] {-1, 8, LEAST, MOST}) {
            due("said " + secret, both.said(secret), -1);
        }
    }

    /** "QUIET: the first MINUTE, this one the first, of 100, at whose begin nothing is in the throat." */
    private static void quietLimits() {
        SpokenBite b = at("dinner 2;dish 5 0;dish 5 1");
        due("this one", b.quiet(), 0);
        b.minute();
        due("0 till MINUTE 2, 1 till MINUTE 3", b.quiet(), 3);
        b.minute();
        b.minute();
        due("MINUTE 3 is this one", b.quiet(), 3);
        SpokenBite shallow = at("dinner 1;dish 5 0;dish 5 1");
        shallow.minute();
        due("EATEN in its MINUTE", shallow.quiet(), 1);
        SpokenBite offered = at("dinner 2;dish 5 0");
        offered.offer(0);
        due("what is OFFERED is not in the throat", offered.quiet(), 0);
        // eight DISHES of which each is eaten as the one before is in the last PLACE: as long as it can be
        SpokenBite longest = at("dinner 6" + ";dish 5 0".repeat(8), "eat 1 if minute%5=0");
        longest.minute();
        due("MINUTE 41", longest.quiet(), 41);
    }

    /** "KNOWING of a SECRET: GUESTS (who have LEFT, too) who KNOW it, as bits." */
    private static void knowing() {
        SpokenBite b = at("dinner 1" + ";guest 0".repeat(5) + ";clash 6 7");
        due("nobody", b.knowing(7), 0);
        for (int guest = 4; guest >= 0; guest--) {
            b.tell(guest, 7);
            due("as bits", b.knowing(7), 32 - (1 << guest));
        }
        b.tell(0, 6);
        b.tell(4, 6);
        b.minute();
        due("two have LEFT", b.count(7), 14);
        due("they, too", b.knowing(7), 31);
        due("they alone", b.knowing(6), 17);
        b.fetch(4);
        due("who is fetched KNOWS nothing", b.knowing(6), 1);
        due("SECRET 0", b.knowing(0), 0);
        for (int secret : new int[] {-1, 8, LEAST, MOST}) {
            due("knowing " + secret, b.knowing(secret), -1);
        }
    }

    /** "what 0: how much, 1 to 4: the DISH in that MINUTE (NONE: none; -2: there is no such MINUTE). -3 without these". */
    private static void bestRowLimits() {
        SpokenBite b = at(THREE);
        int[][] wanted = {{1, 0, -2, -2, -2}, {2, 0, 1, -2, -2}, {3, 0, 1, 2, -2}, {3, -1, 0, 1, 2}};
        for (int n = 1; n <= 4; n++) {
            for (int what = 0; what <= 4; what++) {
                due("bestRow " + n + " what " + what, b.bestRow(n, what), wanted[n - 1][what]);
            }
        }
        refusedRows(b);
    }

    private static void refusedRows(SpokenBite b) {
        for (int n : new int[] {-1, 0, 5, LEAST, MOST}) {
            for (int what = -1; what <= 5; what++) {
                due("bestRow " + n + " what " + what, b.bestRow(n, what), -3);
                due("hush " + n + " what " + what, b.hush(n, what), -3);
            }
        }
        for (int what : new int[] {-1, 5, LEAST, MOST}) {
            for (int n = 1; n <= 4; n++) {
                due("bestRow " + n + " what " + what, b.bestRow(n, what), -3);
                due("hush " + n + " what " + what, b.hush(n, what), -3);
            }
        }
    }

    /** "(each on the table then), in place of what is OFFERED (nothing is from now on) or the RULE says". */
    private static void bestRowOfWhat() {
        SpokenBite b = at(THREE, "eat 0");
        b.offer(2);
        due("not what is OFFERED", b.bestRow(1, 1), 0);
        due("nor later", b.bestRow(2, 2), 1);
        due("not what the RULE says", b.bestRow(3, 0), 3);
        due("it is OFFERED still", b.count(9), 2);
        b.minute();
        due("2 is EATEN", b.bestRow(1, 1), 0);
        due("that is all", b.bestRow(4, 0), 3);
        due("none", b.bestRow(4, 1), -1);
        due("none", b.bestRow(4, 2), -1);
        due("0", b.bestRow(4, 3), 0);
        due("1", b.bestRow(4, 4), 1);
        SpokenBite eight = at("dinner 1;dish 5 0;dish 5 1;dish 5 2;dish 5 3;dish 5 4;dish 5 5;dish 5 6;dish 5 7;guest 5");
        due("four of eight", eight.bestRow(4, 0), 4);
        for (int what = 1; what <= 4; what++) {
            due("the first four", eight.bestRow(4, what), what - 1);
        }
        SpokenBite last = at("dinner 1;dish 0 0;dish 0 1;dish 0 2;dish 0 3;dish 0 4;dish 0 5;dish 0 6;dish 5 7;guest 5");
        due("the last DISH", last.bestRow(1, 1), 7);
        due("none, then the last", last.bestRow(2, 1), -1);
        due("none, then the last", last.bestRow(2, 2), 7);
    }

    /** "those by which all GUESTS who sit then KNOW most, together; of these the first (none ahead of DISH 0)". */
    private static void bestRowOrder() {
        SpokenBite clash = at("dinner 1;dish 5 0;dish 5 1;guest 0;guest 6;clash 0 1");
        due("who LEAVES is not counted", clash.bestRow(2, 0), 1);
        due("none ahead of 0", clash.bestRow(2, 1), -1);
        due("then 0", clash.bestRow(2, 2), 0);
        SpokenBite left = at("dinner 1;dish 5 0;guest 0;guest 0;clash 6 7");
        left.tell(0, 6);
        left.tell(0, 7);
        due("in that MINUTE, too", left.bestRow(1, 0), 1);
        left.minute();
        due("who LEFT is not counted", left.bestRow(1, 0), 1);
        SpokenBite two = at("dinner 1;dish 4 0;dish 9 1;guest 0;guest 9");
        due("together", two.bestRow(1, 0), 2);
        due("the one that more hear", two.bestRow(1, 1), 1);
        due("all of it", two.bestRow(2, 0), 3);
        due("of these the first", two.bestRow(2, 1), 0);
        due("then", two.bestRow(2, 2), 1);
        SpokenBite deaf = at("dinner 1;dish 4 0;guest 9");
        due("nothing", deaf.bestRow(4, 0), 0);
        due("none", deaf.bestRow(4, 4), -1);
    }

    /** HUSH "what 0: how much, 1 to 4: the DISH in that MINUTE (NONE: none; -2: there is no such MINUTE)". */
    private static void hushLimits() {
        SpokenBite b = at(THREE);
        int[][] wanted = {{1, 0, -2, -2, -2}, {2, 0, 1, -2, -2}, {3, 0, 1, 2, -2}, {3, 0, 1, 2, -1}};
        for (int n = 1; n <= 4; n++) {
            for (int what = 0; what <= 4; what++) {
                due("hush " + n + " what " + what, b.hush(n, what), wanted[n - 1][what]);
            }
        }
    }

    /** "least is KNOWN by all GUESTS, together, of rows in which he eats each MINUTE, as long as any DISH is on the table (none then)". */
    private static void hushOfWhat() {
        SpokenBite b = at("dinner 1;dish 5 0;dish 5 1;dish 0 2;guest 0", "eat 0");
        b.offer(1);
        due("the quiet one", b.hush(1, 1), 2);
        due("nothing is KNOWN", b.hush(1, 0), 0);
        due("one more", b.hush(2, 0), 1);
        due("of several the first", b.hush(2, 1), 0);
        due("then the quiet one", b.hush(2, 2), 2);
        due("not what is OFFERED", b.hush(3, 1), 0);
        due("none then", b.hush(4, 4), -1);
        SpokenBite left = at("dinner 1;dish 5 0;guest 0;guest 0;clash 0 1");
        left.tell(0, 1);
        due("by all GUESTS, who LEAVE, too", left.hush(1, 0), 3);
        left.minute();
        due("and who LEFT", left.hush(4, 0), 3);
        due("none", left.hush(4, 1), -1);
        SpokenBite same = at("dinner 1;dish 5 0;dish 9 1;dish 5 1;dish 5 0;guest 0");
        due("the same again", same.hush(2, 0), 1);
        due("0", same.hush(2, 1), 0);
        due("and 3", same.hush(2, 2), 3);
        SpokenBite later = at("dinner 3;dish 5 0;dish 4 1;dish 3 1;guest 5");
        due("5 first, for 4 and 3 are not heard", later.hush(1, 1), 1);
        due("nor ever, behind these", later.hush(3, 0), 1);
    }

    /** "ROWS: all rows of four DISHES, unlike": "what 0: how many, 1 to 4: the DISH of the first (-2: there is none). NONE for others". */
    private static void rowsLimits() {
        int[] wanted = {0, 0, 0, 0, 24, 120, 360, 840, 1680};
        for (int dishes = 0; dishes <= 8; dishes++) {
            SpokenBite b = at("dinner 1" + ";dish 5 0".repeat(dishes) + ";guest 0");
            due("rows of " + dishes, b.rows(0), wanted[dishes]);
            for (int what = 1; what <= 4; what++) {
                due("the first of " + dishes, b.rows(what), dishes < 4 ? -2 : what - 1);
            }
            for (int what : new int[] {-1, 5, LEAST, MOST}) {
                due("rows what " + what, b.rows(what), -1);
            }
        }
        SpokenBite none = at("dinner 1" + ";dish 5 0".repeat(8) + ";guest 0");
        none.note(0, 0, 0, 1);
        due("no row", none.rows(0), 0);
        for (int what = 1; what <= 4; what++) {
            due("there is none", none.rows(what), -2);
        }
    }

    private static SpokenBite five() {
        return at("dinner 1;dish 5 0;dish 5 1;dish 5 2;dish 5 3;dish 5 4;guest 0");
    }

    private static void noted(SpokenBite b, int n, int secret, int knows, int rows) {
        due("note", b.note(n, 0, secret, knows) > 0 ? 1 : 0, 1);
        due("rows with a NOTE of " + n, b.rows(0), rows);
    }

    /** "eaten in MINUTES 0 to 3 .., all else as the text told it, by which all NOTES are so". */
    private static void rowsAndNotes() {
        int[] known = {0, 24, 48, 72, 96, 120, 120};
        for (int n = 0; n < known.length; n++) {
            noted(five(), n, 4, 1, known[n]);
            noted(five(), n, 4, 0, 120 - known[n]);
        }
        SpokenBite b = five();
        noted(b, 1, 4, 1, 24);
        int[] first = {4, 0, 1, 2};
        for (int what = 1; what <= 4; what++) {
            due("the first", b.rows(what), first[what - 1]);
        }
        noted(b, 2, 3, 1, 6);
        noted(b, 3, 0, 0, 4);
        due("4, 3, then not 0", b.rows(3), 1);
        due("then 0", b.rows(4), 0);
        noted(b, 3, 1, 0, 2);
        noted(b, 4, 2, 0, 0);
        SpokenBite byHand = five();
        byHand.note(1, 0, 4, 0);
        byHand.tell(0, 4);
        byHand.offer(4);
        byHand.minute();
        due("as the text told it", byHand.rows(0), 96);
        due("whatever was done by hand", byHand.rows(1), 0);
    }

    /** "in place of what the RULE says (that goes on behind these)". */
    private static void rowsAndTheRule() {
        SpokenBite b = five();
        Due.ruleOf(b, "eat 0");
        Due.ruleOf(b, "eat 1 if minute=59");
        Due.ruleOf(b, "eat 1 if minute=60");
        Due.ruleOf(b, "eat 1 if minute=4");
        b.note(60, 0, 4, 1);
        due("without a RULE the fifth is eaten", b.rows(0), 120);
        b.force(0);
        due("the RULE says none", b.rows(0), 96);
        b.force(1);
        due("in the sixtieth MINUTE", b.rows(0), 120);
        b.force(2);
        due("one behind it", b.rows(0), 96);
        b.note(-1, 0, 0, 0);
        b.note(5, 0, 4, 1);
        b.force(3);
        due("in the fifth MINUTE", b.rows(0), 120);
        b.force(1);
        due("not yet", b.rows(0), 96);
    }

    /** "BELIEVED: the largest set .., of those any GUEST KNOWS (who have LEFT, too), no two of which clash, of several the least as bits". */
    private static void believed() {
        SpokenBite b = at("dinner 1;guest 0;guest 0" + RING);
        due("nothing is known: the set", b.believed(0), 0);
        due("nothing is known: how many", b.believed(1), 0);
        b.tell(0, 4);
        due("one", b.believed(0), 16);
        due("one", b.believed(1), 1);
        b.tell(1, 0);
        due("two that clash: the least", b.believed(0), 1);
        b.tell(0, 1);
        b.tell(1, 2);
        b.tell(1, 3);
        due("of a ring of five", b.believed(1), 2);
        due("the least as bits", b.believed(0), 5);
        b.minute();
        due("who LEFT", b.count(7), 1);
        due("they, too", b.believed(0), 5);
        SpokenBite all = at("dinner 1;guest 0");
        for (int secret = 0; secret < 8; secret++) {
            all.tell(0, secret);
            due("without a clash all", all.believed(1), secret + 1);
        }
        due("all", all.believed(0), 255);
        SpokenBite every = at(everyClash());
        for (int secret = 7; secret >= 0; secret--) {
            every.tell(0, secret);
            due("all clash: the least", every.believed(0), 1 << secret);
            due("all clash: one", every.believed(1), 1);
        }
        for (int what : new int[] {-1, 2, LEAST, MOST}) {
            due("believed what " + what, b.believed(what), -1);
        }
    }

    private static String everyClash() {
        StringBuilder text = new StringBuilder("dinner 1;guest 0");
        for (int one = 0; one < 8; one++) {
            for (int other = 0; other < one; other++) {
                text.append(";clash").append(one).append(' ').append(other);
            }
        }
        return text.toString();
    }

    /** "DROPPED: the smallest set of all SECRETS 0 to 7, so that of each two that clash one is in it, of several the least as bits". */
    private static void dropped() {
        SpokenBite none = at("dinner 1");
        due("no clash: the set", none.dropped(0), 0);
        due("no clash: how many", none.dropped(1), 0);
        SpokenBite one = at("dinner 1;clash 7 6");
        due("the least of two", one.dropped(0), 64);
        due("one", one.dropped(1), 1);
        SpokenBite ring = at("dinner 1" + RING);
        due("of a ring of five: 0, 1 and 3", ring.dropped(0), 11);
        due("three", ring.dropped(1), 3);
        SpokenBite star = at("dinner 1;clash 7 0;clash 1 7;clash 7 2;clash 3 7;clash 7 4;clash 5 7;clash 6 7");
        due("one for all", star.dropped(0), 128);
        due("one", star.dropped(1), 1);
        SpokenBite every = at(everyClash());
        due("all but the last", every.dropped(0), 127);
        due("seven", every.dropped(1), 7);
        for (int what : new int[] {-1, 2, LEAST, MOST}) {
            due("dropped what " + what, every.dropped(what), -1);
        }
    }

    /** "LEFT OUT for n MINUTES (1 to 40)": "what 0: how many, 1: how much, 2: which (-2: none). NONE without these". */
    private static void leftOutLimits() {
        SpokenBite b = at("dinner 1;dish 5 0;guest 0;clash 0 1", "eat 1 if minute=39");
        b.tell(0, 1);
        due("39: none", b.leftOut(39, 2), -2);
        due("40: the DISH", b.leftOut(40, 2), 0);
        due("40: how many sit", b.leftOut(40, 0), 1);
        due("40: how much", b.leftOut(40, 1), 1);
        due("1", b.leftOut(1, 0), 1);
        for (int n : new int[] {-1, 0, 41, LEAST, MOST}) {
            for (int what = 0; what < 3; what++) {
                due("leftOut " + n, b.leftOut(n, what), -1);
            }
        }
        for (int what : new int[] {-1, 3, LEAST, MOST}) {
            due("leftOut what " + what, b.leftOut(1, what), -1);
        }
    }

    /** "so that most GUESTS sit then, of as many: that all GUESTS KNOW most, together; of several none, then the least". */
    private static void leftOutOrder() {
        due("as good: none", at("dinner 1;dish 5 0;dish 5 0;guest 9").leftOut(3, 2), -2);
        due("none KNOW less: none", at("dinner 1;dish 5 0;dish 5 1;guest 0").leftOut(3, 2), -2);
        SpokenBite two = at("dinner 1;dish 5 0;dish 5 1;guest 0;clash 0 1");
        due("of several the least", two.leftOut(2, 2), 0);
        due("one sits", two.leftOut(2, 0), 1);
        due("and KNOWS one", two.leftOut(2, 1), 1);
        SpokenBite more = at("dinner 1;dish 9 0;dish 5 1;guest 0;guest 9;clash 0 1");
        due("of as many: who KNOW most", more.leftOut(2, 2), 1);
        due("both sit", more.leftOut(2, 0), 2);
        due("both KNOW one", more.leftOut(2, 1), 2);
        SpokenBite sits = at("dinner 1;dish 5 0;dish 5 1;dish 5 2;guest 0;clash 0 1;clash 2 0");
        due("more sit, though less is known", sits.leftOut(3, 2), 0);
        due("two are known", sits.leftOut(3, 1), 2);
        SpokenBite left = at("dinner 1;dish 5 0;guest 0;guest 0;clash 6 7");
        left.tell(0, 6);
        left.tell(0, 7);
        left.minute();
        due("who LEFT does not sit", left.leftOut(9, 0), 1);
        due("but KNOWS", left.leftOut(9, 1), 4);
    }

    /** "the DISH on the table that had best not be there from now on (nor be OFFERED, if it is), or none". */
    private static void leftOutOfWhat() {
        SpokenBite offered = at("dinner 1;dish 5 0;dish 5 1;guest 0;clash 0 1");
        offered.tell(0, 0);
        offered.offer(1);
        due("nor be OFFERED", offered.leftOut(1, 2), 1);
        due("they stay", offered.leftOut(1, 0), 1);
        SpokenBite next = at("dinner 1;dish 5 2;dish 5 1;guest 0;clash 0 1");
        next.tell(0, 0);
        next.offer(1);
        due("nor be OFFERED", next.leftOut(1, 2), 1);
        due("but another one is eaten then", next.leftOut(1, 1), 2);
        SpokenBite other = at("dinner 1;dish 5 0;dish 5 1;dish 5 2;guest 0;clash 0 2");
        other.tell(0, 2);
        other.offer(1);
        due("another one stays OFFERED", other.leftOut(1, 2), -2);
        due("and then 0 had best be left", other.leftOut(2, 2), 0);
        SpokenBite throat = at("dinner 2;dish 9 0;dish 3 1;guest 9;guest 8;clash 0 1");
        throat.minute();
        throat.tell(0, 1);
        due("what is in the throat stays there", throat.leftOut(1, 2), -2);
        due("one sits", throat.leftOut(1, 0), 1);
        SpokenBite eight = at("dinner 1;dish 5 0;dish 5 0;dish 5 0;dish 5 0;dish 5 0;dish 5 0;dish 5 0;dish 5 1;guest 0;clash 0 1");
        due("the last DISH", eight.leftOut(8, 2), 7);
        due("in 7 MINUTES none", eight.leftOut(7, 2), -2);
        due("nothing is left out for long", eight.count(6), 255);
        SpokenBite eaten = at("dinner 1;dish 5 0;dish 0 1;guest 0;clash 6 7");
        eaten.tell(0, 6);
        eaten.tell(0, 7);
        eaten.minute();
        eaten.fetch(0);
        due("what is EATEN does not come back by it", eaten.leftOut(5, 2), -2);
        due("so nothing is known", eaten.leftOut(5, 1), 0);
    }

    /** "RESTS of two GUESTS for n MINUTES (1 to 20)": "1, 2: EARS of the first (-2: there is none). NONE without these (unlike)." */
    private static void restsLimits() {
        SpokenBite b = at("dinner 1;dish 5 0;guest 20;guest 20;guest 20", "eat 1 if minute=19");
        due("19: nothing is heard", b.rests(0, 1, 19, 0), 25);
        due("20: EARS of 0 or 3", b.rests(0, 1, 20, 0), 4);
        due("1", b.rests(2, 0, 1, 0), 25);
        for (int n : new int[] {-1, 0, 21, LEAST, MOST}) {
            due("rests n " + n, b.rests(0, 1, n, 0), -1);
        }
        for (int what : new int[] {-1, 3, LEAST, MOST}) {
            due("rests what " + what, b.rests(0, 1, 1, what), -1);
        }
        for (int guest : new int[] {-1, 3, 5, LEAST, MOST}) {
            due("rests of " + guest, b.rests(guest, 0, 1, 0), -1);
            due("rests with " + guest, b.rests(0, guest, 1, 0), -1);
        }
        for (int guest = 0; guest < 3; guest++) {
            due("unlike", b.rests(guest, guest, 1, 0), -1);
        }
    }

    /** "each has EARS of 0, 3, 6, 9 or 12 from now on". */
    private static void restsByEars() {
        int[] heard = {0, 1, 1, 2, 2, 2, 3, 3, 3, 4, 4, 4, 5, 5};
        for (int loud = 0; loud < heard.length; loud++) {
            SpokenBite b = at("dinner 1;dish " + loud + " 0;guest 20;guest 20");
            int each = heard[loud] == 0 ? 5 : heard[loud];
            due("EARS that hear " + loud, b.rests(0, 1, 1, 0), each * each);
            due("the first", b.rests(0, 1, 1, 1), 0);
            due("the second", b.rests(0, 1, 1, 2), 0);
            // who is told what clashes had best not hear it
            SpokenBite shy = at("dinner 1;dish " + loud + " 0;guest 0;guest 0;clash 0 1");
            shy.tell(1, 1);
            int deaf = 5 - heard[loud];
            int best = deaf == 0 ? 5 : deaf;
            due("EARS that hear, and EARS that do not hear " + loud, shy.rests(0, 1, 1, 0), each * best);
            due("by the first one", shy.rests(0, 1, 1, 1), 0);
            due("then the second one", shy.rests(0, 1, 1, 2), deaf == 0 ? 0 : 3 * heard[loud]);
            due("the other way round", shy.rests(1, 0, 1, 1), deaf == 0 ? 0 : 3 * heard[loud]);
        }
    }

    /** "each has how many SECRETS they KNOW then, and 3 more if they sit". */
    private static void restsOfWho() {
        // GUEST 0 KNOWS 1, and LEAVES by the last DISH, which says 0
        SpokenBite stay = at("dinner 1;dish 5 2;dish 5 3;dish 5 0;guest 0;guest 0;clash 0 1");
        stay.tell(0, 1);
        due("who hears two has 3 and 3, who does not 1 and 3", stay.rests(0, 1, 2, 0), 4);
        due("who hears all LEAVES with 4, who does not has 1 and 3: all alike", stay.rests(0, 1, 3, 0), 10);
        SpokenBite gone = at("dinner 1;dish 5 0;guest 0;guest 0;clash 6 7");
        gone.tell(0, 6);
        gone.tell(0, 7);
        gone.offer(0);
        gone.minute();
        gone.serve(0);
        due("who LEFT hears nothing, whatever EARS", gone.rests(0, 1, 1, 0), 25);
        due("all else as it is", gone.guest(1, 0), 0);
        // DISH 1 is eaten if GUEST 2 has LEFT by DISH 0, which is as loud as 9
        for (int ears = 9; ears <= 10; ears++) {
            SpokenBite third = at("dinner 1;dish 9 0;dish 3 2;guest 20;guest 20;guest " + ears + ";clash 0 1",
                "eat 1 if dish=0;eat 1 if sitting=2");
            third.tell(2, 1);
            due("another one keeps EARS of " + ears, third.rests(0, 1, 2, 0), ears == 9 ? 4 : 16);
        }
    }

    /** "(-2: there is none)": to EARS of 0 the best answer is 3, to 3 and 6 it is 9, to 9 and 12 it is 0. */
    private static void restsOfNone() {
        // EARS 0 LEAVE with three by DISH 2, 3 and 6 by DISH 3, 9 and 12 by DISH 4; he eats no more as soon as one has LEFT
        SpokenBite b = at("dinner 1;dish 2 5;dish 1 2;dish 7 4;dish 13 3;dish 12 2;guest 0;guest 0;clash 3 2;clash 4 3;clash 5 4",
            "eat sitting-1");
        due("how many", b.rests(0, 1, 6, 0), 0);
        due("there is none", b.rests(0, 1, 6, 1), -2);
        due("there is none", b.rests(0, 1, 6, 2), -2);
    }

    /** "all else as it is": of the DINNER there is, whatever text was refused or gone back from. */
    private static void restsBehindOtherTexts() {
        SpokenBite b = at("dinner 1;dish 5 0;guest 20;guest 20");
        b.image(0);
        due("EARS of 0 or 3", b.rests(0, 1, 1, 0), 4);
        due("refused", Due.dinnerOf(b, "dinner 2;dish 9 0;guest 1;x"), Due.faulty(26, 0));
        due("EARS of 0 or 3 still", b.rests(0, 1, 1, 0), 4);
        due("another one", Due.dinnerOf(b, "dinner 2;dish 9 0;guest 1;guest 1"), 1);
        due("EARS of 0 to 9", b.rests(0, 1, 1, 0), 16);
        b.back(0);
        due("EARS of 0 or 3 again", b.rests(0, 1, 1, 0), 4);
    }

    /** "CRUMBS (0 to 9999) among GUESTS by how many SECRETS they KNOW": "NONE without these." */
    private static void crumbsLimits() {
        SpokenBite b = at("dinner 1;guest 0;guest 0;guest 0;clash 6 7");
        for (int much : new int[] {0, 1, 9999}) {
            due("nothing, if nobody KNOWS any", b.crumbs(much, 0), 0);
        }
        b.tell(1, 4);
        due("0", b.crumbs(0, 1), 0);
        due("1", b.crumbs(1, 1), 1);
        due("9999", b.crumbs(9999, 1), 9999);
        due("who KNOWS none", b.crumbs(9999, 0), 0);
        for (int much : new int[] {-1, -2, 10000, LEAST, MOST}) {
            for (int guest = 0; guest < 3; guest++) {
                due("crumbs " + much, b.crumbs(much, guest), -1);
                due("crumbs " + much + ", if nobody KNOWS any", at("dinner 1;guest 0;guest 0;guest 0").crumbs(much, guest), -1);
            }
        }
        for (int guest : new int[] {-1, 3, 5, LEAST, MOST}) {
            due("crumbs of " + guest, b.crumbs(5, guest), -1);
        }
        b.tell(0, 6);
        b.tell(0, 7);
        b.minute();
        due("who LEFT has a part", b.crumbs(9, 0), 6);
        due("and who sits", b.crumbs(9, 1), 3);
    }

    /** "each the part downwards; what is left, one each, to those whose part lost most by that, of several the least first". */
    private static void crumbsOrder() {
        SpokenBite five = at("dinner 1" + ";guest 0".repeat(5));
        for (int guest = 0; guest < 5; guest++) {
            five.tell(guest, guest);
        }
        for (int much = 0; much <= 12; much++) {
            for (int guest = 0; guest < 5; guest++) {
                due(much + " among five: of " + guest, five.crumbs(much, guest), much / 5 + (guest < much % 5 ? 1 : 0));
            }
        }
        SpokenBite uneven = at("dinner 1;guest 0;guest 0;guest 0;guest 0");
        int[] knows = {1, 2, 0, 4};
        for (int guest = 0; guest < 4; guest++) {
            for (int secret = 0; secret < knows[guest]; secret++) {
                uneven.tell(guest, secret);
            }
        }
        // ten sevenths, twenty and forty: 1 and 3, 2 and 6, 5 and 5 left over
        int[] ten = {1, 3, 0, 6};
        // 1: the last has 4 sevenths; 2: 2, 4 and 8 sevenths; 3: 3, 6 and 12 sevenths
        int[][] few = {{0, 0, 0, 1}, {0, 1, 0, 1}, {0, 1, 0, 2}};
        for (int guest = 0; guest < 4; guest++) {
            due("10: of " + guest, uneven.crumbs(10, guest), ten[guest]);
            for (int much = 1; much <= 3; much++) {
                due(much + ": of " + guest, uneven.crumbs(much, guest), few[much - 1][guest]);
            }
        }
        SpokenBite all = at("dinner 1" + ";guest 0".repeat(5));
        for (int i = 0; i < 40; i++) {
            all.tell(i / 8, i % 8);
        }
        for (int guest = 0; guest < 5; guest++) {
            due("9999 by forty: of " + guest, all.crumbs(9999, guest), guest < 4 ? 2000 : 1999);
        }
    }

    /** "LOUDEST for n MINUTES (1 to 100)": "what 0: the most (0: nothing SPEAKS), 1: the MINUTE (-2 likewise). NONE without these". */
    private static void loudestLimits() {
        SpokenBite b = at("dinner 1;dish 5 0", "eat 1 if minute=99");
        due("99: nothing", b.loudest(99, 0), 0);
        due("99: nothing", b.loudest(99, 1), -2);
        due("100: the DISH", b.loudest(100, 0), 5);
        due("100: its MINUTE", b.loudest(100, 1), 99);
        due("1", b.loudest(1, 0), 0);
        for (int n : new int[] {-1, 0, 101, LEAST, MOST}) {
            due("loudest " + n, b.loudest(n, 0), -1);
            due("loudest " + n, b.loudest(n, 1), -1);
        }
        for (int what : new int[] {-1, 2, LEAST, MOST}) {
            due("loudest what " + what, b.loudest(1, what), -1);
        }
        SpokenBite rise = at("dinner 1;dish 4 0;dish 20 1;dish 20 2;dish 1 3");
        due("1 MINUTE", rise.loudest(1, 0), 4);
        due("2 MINUTES", rise.loudest(2, 0), 20);
        due("the first of these", rise.loudest(4, 1), 1);
        rise.minute();
        rise.minute();
        due("its MINUTE", rise.loudest(1, 1), 2);
        rise.minute();
        due("1 is above 0", rise.loudest(1, 0), 1);
        SpokenBite zero = at("dinner 3;dish 0 0;dish 0 1");
        due("0 does not SPEAK", zero.loudest(100, 0), 0);
        due("0 does not SPEAK", zero.loudest(100, 1), -2);
        SpokenBite place = at("dinner 3;dish 9 0", "eat 1");
        place.minute();
        due("LOUD less its PLACE", place.loudest(5, 0), 8);
        due("this MINUTE", place.loudest(5, 1), 1);
    }

    private static void withoutDinner() {
        SpokenBite b = new SpokenBite();
        for (int what = 0; what <= 4; what++) {
            due("ahead", b.ahead(0, 0, what), -1);
            due("bestRow", b.bestRow(4, what), -3);
            due("bestRow", b.bestRow(1, what), -3);
            due("hush", b.hush(4, what), -3);
            due("hush", b.hush(1, what), -3);
            due("rows", b.rows(what), -1);
            due("believed", b.believed(what), -1);
            due("dropped", b.dropped(what), -1);
            due("leftOut", b.leftOut(1, what), -1);
            due("rests", b.rests(0, 1, 1, what), -1);
            due("loudest", b.loudest(1, what), -1);
            due("said", b.said(what), -1);
            due("knowing", b.knowing(what), -1);
            due("crumbs", b.crumbs(what, 0), -1);
        }
        due("quiet", b.quiet(), -1);
    }

    /** A DINNER without DISHES or GUESTS is one. */
    private static void bareDinner() {
        SpokenBite b = Twin.bare();
        due("ahead of a GUEST", b.ahead(0, 100, 0), -1);
        due("ahead: who sits", b.ahead(0, 100, 1), 0);
        due("ahead: DISHES", b.ahead(0, 100, 2), 0);
        due("said", b.said(0), -2);
        due("quiet", b.quiet(), 0);
        due("knowing", b.knowing(0), 0);
        due("bestRow", b.bestRow(4, 0), 0);
        due("bestRow", b.bestRow(4, 4), -1);
        due("bestRow", b.bestRow(3, 4), -2);
        due("hush", b.hush(4, 0), 0);
        due("hush", b.hush(4, 1), -1);
        due("hush", b.hush(3, 4), -2);
        due("rows", b.rows(0), 0);
        due("rows", b.rows(1), -2);
        due("believed", b.believed(0), 0);
        due("dropped", b.dropped(0), 0);
        due("leftOut", b.leftOut(40, 0), 0);
        due("leftOut", b.leftOut(40, 1), 0);
        due("leftOut", b.leftOut(40, 2), -2);
        due("rests", b.rests(0, 1, 1, 0), -1);
        due("crumbs", b.crumbs(1, 0), -1);
        due("loudest", b.loudest(100, 0), 0);
        due("loudest", b.loudest(100, 1), -2);
    }
}
