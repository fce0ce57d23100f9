/** Promises 6 to 16: force, what can be seen, and the ACTS. */
final class ActTest {
    private static final Due DUE = new Due();
    private static final String PLAIN = "dinner 3;dish 5 0;dish 9 1;dish 7 2;guest 4;guest 8;clash 0 1";

    public static void main(String[] args) {
        force();
        seen();
        minutes();
        speaking();
        hearing();
        byRule();
        offers();
        serves();
        fetches();
        tells();
        undone();
        lastMinute();
        DUE.close();
    }

    private static void due(String call, long got, long want) {
        DUE.due(call, got, want);
    }

    private static SpokenBite at(String text) {
        SpokenBite b = new SpokenBite();
        Due.dinnerOf(b, text);
        return b;
    }

    private static void force() {
        SpokenBite b = at(PLAIN);
        due("force 0 without", b.force(0), -2);
        Due.ruleOf(b, "eat 1+dish");
        Due.ruleOf(b, "eat 0");
        due("force 1", b.force(1), -1);
        due("force 0", b.force(0), 1);
        due("force 2", b.force(2), -2);
        due("force -2", b.force(-2), -2);
        due("stays", b.count(4), 0);
        due("force none", b.force(-1), 0);
        due("force none again", b.force(-1), -1);
        due("is no act", b.count(11), 0);
    }

    private static void seen() {
        SpokenBite b = at(PLAIN);
        due("loud", b.dish(1, 0), 9);
        due("says", b.dish(2, 1), 2);
        due("where", b.dish(2, 2), -1);
        due("dish 3", b.dish(3, 0), -3);
        due("dish -1", b.dish(-1, 0), -3);
        due("dish what 3", b.dish(0, 3), -3);
        due("dish what -1", b.dish(0, -1), -3);
        due("ears", b.guest(1, 0), 8);
        due("knows", b.guest(1, 1), 0);
        due("sits", b.guest(1, 2), 1);
        due("guest 2", b.guest(2, 0), -1);
        due("guest -1", b.guest(-1, 0), -1);
        due("guest what 3", b.guest(0, 3), -1);
        due("guest what -1", b.guest(0, -1), -1);
        due("clashes 0", b.clashes(0), 2);
        due("clashes 1", b.clashes(1), 1);
        due("clashes 7", b.clashes(7), 0);
        due("clashes 8", b.clashes(8), -1);
        due("clashes -1", b.clashes(-1), -1);
        due("clashes without a dinner", new SpokenBite().clashes(0), -1);
        due("throat 0", b.throat(0), -1);
        due("throat 2", b.throat(2), -1);
        due("throat 3", b.throat(3), -2);
        due("throat -1", b.throat(-1), -2);
    }

    /** The whole of PLAIN, minute by minute: where the dishes are, who knows what, who sits. */
    private static void minutes() {
        SpokenBite b = at(PLAIN);
        int[][] wanted = {
            // speaks, dishes 0 to 2, what guests 0 and 1 know, who sits
            {1, 1, -1, -1, 1, 0, 3},
            {2, 2, 1, -1, 3, 2, 2},
            {2, -2, 2, 1, 3, 2, 2},
            {2, -2, -2, 2, 3, 2, 2},
            {4, -2, -2, -2, 3, 2, 2},
            {0, -2, -2, -2, 3, 2, 2},
        };
        for (int i = 0; i < wanted.length; i++) {
            due("minute " + i, b.minute(), wanted[i][0]);
            for (int dish = 0; dish < 3; dish++) {
                due("minute " + i + ": dish " + dish, b.dish(dish, 2), wanted[i][1 + dish]);
            }
            due("minute " + i + ": guest 0", b.guest(0, 1), wanted[i][4]);
            due("minute " + i + ": guest 1", b.guest(1, 1), wanted[i][5]);
            due("minute " + i + ": sitting", b.count(7), wanted[i][6]);
            due("minute " + i + ": minute", b.count(5), i + 1);
        }
        due("throat is empty", b.throat(1), -1);
        SpokenBite c = at(PLAIN);
        c.minute();
        c.minute();
        due("throat 0", c.throat(0), -1);
        due("throat 1", c.throat(1), 1);
        due("throat 2", c.throat(2), 0);
        due("left sits not", c.guest(0, 2), 0);
    }

    private static void speaking() {
        SpokenBite two = at("dinner 2;dish 8 0;dish 7 1;guest 7;guest 8");
        due("8", two.minute(), 1);
        due("7 and 8 less 1", two.minute(), 3);
        due("both heard", two.guest(0, 1), 3);
        due("not heard", two.guest(1, 1), 1);
        SpokenBite zero = at("dinner 2;dish 0 0;dish 1 1;guest 0");
        due("0 is not above 0", zero.minute(), 0);
        due("1", zero.minute(), 2);
        due("1 less 1", zero.minute(), 0);
        due("knows", zero.guest(0, 1), 2);
        SpokenBite one = at("dinner 1;dish 3 4;dish 2 5;guest 3");
        one.minute();
        due("eaten at once", one.dish(0, 2), -2);
        due("only the second", one.minute(), 2);
    }

    private static void hearing() {
        SpokenBite b = at("dinner 1;dish 9 0;dish 9 1;dish 9 2;dish 9 3;guest 0;clash 2 0;clash 1 3");
        b.minute();
        b.minute();
        due("no clash", b.count(7), 1);
        b.minute();
        due("0 and 2 clash", b.count(7), 0);
        b.minute();
        due("who left hears nothing", b.guest(0, 1), 7);
    }

    private static void byRule() {
        SpokenBite b = at(PLAIN);
        Due.ruleOf(b, "eat loud if loud>5");
        b.force(0);
        due("the loudest", b.minute(), 2);
        due("then 7", b.dish(2, 2), -1);
        b.minute();
        due("in the throat", b.dish(2, 2), 1);
        b.minute();
        due("not above 0", b.dish(0, 2), -1);
        b.force(-1);
        b.minute();
        due("without a rule", b.dish(0, 2), 1);
    }

    private static void offers() {
        SpokenBite b = at(PLAIN);
        due("none of none", b.offer(-1), -2);
        due("offer 2", b.offer(2), -1);
        due("offer 2 again", b.offer(2), -2);
        due("offer 3", b.offer(3), -2);
        due("offer -2", b.offer(-2), -2);
        due("offer 1", b.offer(1), 2);
        due("offered", b.count(9), 1);
        due("offer none", b.offer(-1), 1);
        due("offer 2", b.offer(2), -1);
        due("acts", b.count(11), 4);
        due("he eats it", b.minute(), 4);
        due("nothing then", b.count(9), -1);
        due("2 is in the throat", b.offer(2), -2);
        due("by the rule then", b.minute(), 4);
        due("0 it was", b.dish(0, 2), 1);
        due("without a dinner", new SpokenBite().offer(0), -2);
        due("none without a dinner", new SpokenBite().offer(-1), -2);
        SpokenBite c = at(PLAIN);
        Due.ruleOf(c, "eat 0");
        c.force(0);
        c.offer(1);
        due("offered ahead of the rule", c.minute(), 2);
    }

    private static void serves() {
        SpokenBite b = at(PLAIN);
        due("on the table", b.serve(0), -1);
        b.minute();
        due("in the throat", b.serve(0), -1);
        b.minute();
        b.minute();
        due("acts", b.count(11), 3);
        due("eaten", b.serve(0), 1);
        due("on the table", b.dish(0, 2), -1);
        due("again", b.serve(0), -1);
        due("3", b.serve(3), -1);
        due("-1", b.serve(-1), -1);
        due("an act", b.count(11), 4);
        due("eats it again", b.minute() & 1, 0);
        due("in the throat again", b.dish(0, 2), 1);
        due("without a dinner", new SpokenBite().serve(0), -1);
    }

    private static void fetches() {
        SpokenBite b = at(PLAIN);
        due("sits", b.fetch(0), -1);
        b.minute();
        b.minute();
        due("has left", b.fetch(0), 3);
        due("sits again", b.count(7), 3);
        due("knows nothing", b.guest(0, 1), 0);
        due("the other one knows", b.guest(1, 1), 2);
        due("again", b.fetch(0), -1);
        due("2", b.fetch(2), -1);
        due("-1", b.fetch(-1), -1);
        due("an act", b.count(11), 3);
        due("without a dinner", new SpokenBite().fetch(0), -1);
    }

    private static void tells() {
        SpokenBite b = at(PLAIN);
        due("tell", b.tell(1, 7), 128);
        due("known", b.tell(1, 7), -1);
        due("another", b.tell(1, 0), 129);
        due("a third", b.tell(1, 1), 131);
        due("nobody leaves", b.count(7), 3);
        due("acts", b.count(11), 3);
        due("guest 2", b.tell(2, 0), -1);
        due("guest -1", b.tell(-1, 0), -1);
        due("secret 8", b.tell(0, 8), -1);
        due("secret -1", b.tell(0, -1), -1);
        b.minute();
        due("leaves in the next minute", b.count(7), 1);
        due("who left is not told", b.tell(1, 2), -1);
        due("without a dinner", new SpokenBite().tell(0, 0), -1);
        SpokenBite quiet = at("dinner 1;guest 9;clash 0 1");
        quiet.tell(0, 0);
        quiet.tell(0, 1);
        due("nothing speaks", quiet.minute(), 0);
        due("leaves all the same", quiet.count(7), 0);
    }

    private static void undone() {
        SpokenBite b = at(PLAIN);
        due("nothing", b.undo(), -1);
        b.offer(2);
        b.minute();
        b.minute();
        b.minute();
        b.tell(0, 5);
        b.minute();
        b.serve(2);
        Due.ruleOf(b, "eat 1");
        b.force(0);
        b.seed(5);
        b.note(1, 0, 0, 1);
        due("undo serve", b.undo(), 6);
        due("eaten", b.dish(2, 2), -2);
        due("undo minute", b.undo(), 5);
        due("minute", b.count(5), 3);
        due("undo tell", b.undo(), 4);
        due("knows not", b.guest(0, 1) >> 5 & 1, 0);
        due("undo minute", b.undo(), 3);
        due("undo minute", b.undo(), 2);
        due("undo minute", b.undo(), 1);
        due("minute 0", b.count(5), 0);
        due("on the table again", b.count(6), 7);
        due("offered again", b.count(9), 2);
        due("undo offer", b.undo(), 0);
        due("nothing offered", b.count(9), -1);
        due("nothing more", b.undo(), -1);
        due("the rest stays: force", b.count(4), 0);
        due("the rest stays: x", b.count(12), 5);
        due("the rest stays: notes", b.count(10), 1);
    }

    /** MINUTE 999 lies behind the calls that are promised, but the class keeps to it. */
    private static void lastMinute() {
        SpokenBite b = at(PLAIN);
        for (int i = 0; i < 25; i++) {
            b.minute();
        }
        due("20 can be undone", b.count(11), 20);
        for (int left = 19; left >= 0; left--) {
            due("undo", b.undo(), left);
        }
        due("no more", b.undo(), -1);
        due("minute 5", b.count(5), 5);
        for (int i = 5; i < 999; i++) {
            due("minute " + i, b.minute() >= 0 ? 1 : 0, 1);
        }
        due("in minute 999", b.minute(), -1);
        due("nothing happens", b.count(5), 999);
        due("undo 19", b.undo(), 19);
        due("minute 998", b.count(5), 998);
        b.minute();
        b.serve(0);
        due("asked minutes go on", b.said(0), 999);
        due("asked minutes go on", b.quiet(), 999);
        b.offer(0);
        due("offered in it", b.ahead(0, 9, 2), 0);
    }
}
