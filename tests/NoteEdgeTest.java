/** NOTES, what fits them, DRAWS and HICCUPS, promises 30 to 34, sentence by sentence: each limit on both sides. */
final class NoteEdgeTest {
    private static final Due DUE = new Due();
    private static final int LEAST = Integer.MIN_VALUE;
    private static final int MOST = Integer.MAX_VALUE;

    public static void main(String[] args) {
        noteLimits();
        noteRefused();
        notesAtMost();
        noNotes();
        ruledLimits();
        ruledMinutes();
        ruledByHand();
        ruledFirst();
        lookLimits();
        lookMinutes();
        lookParts();
        seed();
        seedRefused();
        hiccupsLimits();
        hiccupsMinutes();
        hiccupsBelow();
        hiccupsPlaces();
        hiccupsOutOfThatPlace();
        hiccupsOntoTheTable();
        hiccupsManyTimes();
        hiccupsKeepX();
        DUE.close();
    }

    private static void due(String call, long got, long want) {
        DUE.due(call, got, want);
    }

    private static SpokenBite at(String text, String... rules) {
        SpokenBite b = new SpokenBite();
        due("dinner of '" + text + "' is one", Due.dinnerOf(b, text) >= 0 ? 1 : 0, 1);
        for (int i = 0; i < rules.length; i++) {
            due("rule of '" + rules[i] + "'", Due.ruleOf(b, rules[i]), i);
        }
        return b;
    }

    private static void refused(String name, Twin.Setup setup, Twin.Call call, int want) {
        Twin.changesNothing(DUE, name, setup, call, want);
    }

    /** "behind the n-th MINUTE of all (0 to 60) a GUEST KNEW a SECRET (1), or did not (0)": "how many". */
    private static void noteLimits() {
        SpokenBite b = at("dinner 1" + ";guest 0".repeat(5));
        due("the least of all", b.note(0, 0, 0, 0), 1);
        due("the most of all", b.note(60, 4, 7, 1), 2);
        due("NOTES", b.count(10), 2);
        due("the same again", b.note(60, 4, 7, 1), 3);
        due("no ACT", b.count(11), 0);
    }

    /** "-2, and nothing happens, without these". */
    private static void noteRefused() {
        int[][] wrong = {{-2, 0, 0, 1}, {61, 0, 0, 1}, {LEAST, 0, 0, 1}, {MOST, 0, 0, 1}, {0, -1, 0, 1}, {0, 3, 0, 1}, {0, 4, 0, 1},
            {0, LEAST, 0, 1}, {0, MOST, 0, 1}, {0, 0, -1, 1}, {0, 0, 8, 1}, {0, 0, LEAST, 1}, {0, 0, MOST, 1}, {0, 0, 0, -1},
            {0, 0, 0, 2}, {0, 0, 0, LEAST}, {0, 0, 0, MOST}};
        for (int[] w : wrong) {
            refused("note " + w[0] + " " + w[1] + " " + w[2] + " " + w[3], Twin::rich, b -> b.note(w[0], w[1], w[2], w[3]), -2);
        }
        refused("note without a DINNER", SpokenBite::new, b -> b.note(0, 0, 0, 0), -2);
        refused("note without GUESTS", Twin::bare, b -> b.note(0, 0, 0, 0), -2);
    }

    /** "NOTES 0 to 9"; "-2, and nothing happens, .. if there are 10". */
    private static void notesAtMost() {
        Twin.Setup nine = () -> {
            SpokenBite b = Twin.rich();
            for (int i = 3; i <= 9; i++) {
                due("note", b.note(1, 0, 0, 1), i);
            }
            return b;
        };
        Twin.Setup ten = () -> {
            SpokenBite b = nine.make();
            due("a tenth", b.note(2, 1, 1, 1), 10);
            return b;
        };
        refused("an eleventh", ten, b -> b.note(0, 0, 0, 1), -2);
        refused("an eleventh, wrong", ten, b -> b.note(61, 0, 0, 1), -2);
        SpokenBite full = ten.make();
        due("ten of them are so", full.ruled(0), 2);
        SpokenBite last = nine.make();
        last.note(2, 1, 1, 0);
        due("the tenth counts: not so", last.ruled(0), 0);
        SpokenBite other = ten.make();
        due("none then", other.note(-1, 0, 0, 0), 0);
        due("and again ten", other.count(10), 0);
        for (int i = 1; i <= 10; i++) {
            due("note", other.note(60, 2, 7, 0), i);
        }
        due("and no more", other.note(60, 2, 7, 0), -2);
    }

    /** "(n NONE: there are none then, 0)". */
    private static void noNotes() {
        SpokenBite b = Twin.rich();
        due("none then, whatever the rest is", b.note(-1, LEAST, MOST, -9), 0);
        due("NOTES", b.count(10), 0);
        due("none of them counts", b.ruled(0), 4);
        due("again", b.note(-1, 0, 0, 1), 0);
        due("no ACT", b.count(11), 5);
        due("the first one again", b.note(0, 0, 0, 0), 1);
        SpokenBite never = at("dinner 1;dish 5 0;guest 0");
        never.note(0, 0, 0, 1);
        due("never so", never.ruled(0), 0);
        never.note(-1, 0, 0, 0);
        due("none is left of it", never.ruled(0), 1);
        never.note(9, 0, 0, 1);
        never.note(5, 0, 0, 0);
        due("not so", never.ruled(0), 0);
        never.note(-1, 0, 0, 0);
        never.note(9, 0, 0, 1);
        due("nor of the second", never.ruled(0), 1);
        refused("none of none", Twin::bare, t -> t.note(-1, 0, 0, 0), 0);
        refused("without a DINNER", SpokenBite::new, t -> t.note(-1, 0, 0, 0), 0);
    }

    /** "RULED what 0: how many, 1: the first (NONE: none; -2: there is none such). -3 for others, or without a DINNER." */
    private static void ruledLimits() {
        SpokenBite b = at("dinner 1;dish 5 0;guest 0");
        for (int rules = 0; rules <= 6; rules++) {
            due("of " + rules + " RULES, and of none", b.ruled(0), rules + 1);
            due("none ahead of 0", b.ruled(1), -1);
            Due.ruleOf(b, "eat " + rules);
        }
        b.note(0, 0, 0, 1);
        due("how many: none", b.ruled(0), 0);
        due("there is none such", b.ruled(1), -2);
        for (int what : new int[] {-1, 2, LEAST, MOST}) {
            due("ruled what " + what, b.ruled(what), -3);
            due("ruled without a DINNER", new SpokenBite().ruled(what), -3);
        }
        due("ruled without a DINNER", new SpokenBite().ruled(0), -3);
        due("ruled without a DINNER", new SpokenBite().ruled(1), -3);
        due("a bare DINNER", Twin.bare().ruled(0), 1);
        due("a bare DINNER", Twin.bare().ruled(1), -1);
    }

    /** "behind the n-th MINUTE of all": 0 is the begin, 60 the last. */
    private static void ruledMinutes() {
        String text = "dinner 1;dish 5 0;guest 0";
        for (int n : new int[] {0, 1, 2, 59, 60}) {
            // by none it is said in the first MINUTE, by RULE 0 in the n-th, by RULE 1 in the next
            SpokenBite b = at(text, "eat 1 if minute=" + Math.max(n - 1, 0), "eat 1 if minute=" + n);
            b.note(n, 0, 0, 1);
            int known = n == 0 ? 0 : 2;
            due("KNEW behind " + n, b.ruled(0), known);
            b.note(-1, 0, 0, 0);
            b.note(n, 0, 0, 0);
            due("KNEW not behind " + n, b.ruled(0), 3 - known);
            due("the first", b.ruled(1), n == 0 ? -1 : 1);
        }
        SpokenBite two = at(text, "eat 1 if minute=5");
        two.note(5, 0, 0, 0);
        due("not behind 5", two.ruled(1), 0);
        two.note(6, 0, 0, 1);
        due("but behind 6", two.ruled(1), 0);
        due("it alone", two.ruled(0), 1);
        two.note(6, 0, 0, 0);
        due("not both", two.ruled(0), 0);
        SpokenBite left = at("dinner 1;dish 5 0;dish 5 1;guest 0;clash 0 1");
        left.note(60, 0, 0, 1);
        left.note(60, 0, 1, 1);
        due("who LEFT KNEW it still", left.ruled(0), 1);
        SpokenBite order = at(text, "eat 1 if minute=30");
        order.note(31, 0, 0, 1);
        order.note(2, 0, 0, 0);
        due("told in any order", order.ruled(1), 0);
    }

    /** "so that from the begin on, all as the text told it, all NOTES are so". */
    private static void ruledByHand() {
        SpokenBite b = at("dinner 1;dish 5 0;dish 5 1;guest 0", "eat 1+dish", "eat 0");
        b.note(1, 0, 0, 1);
        due("none alone", b.ruled(0), 1);
        b.tell(0, 7);
        b.offer(1);
        b.minute();
        b.force(1);
        b.seed(99);
        b.minute();
        due("whatever was done by hand", b.ruled(0), 1);
        due("none", b.ruled(1), -1);
        b.note(9, 0, 7, 0);
        due("what was told by hand was not told", b.ruled(0), 1);
        b.note(9, 0, 1, 1);
        due("what was OFFERED was not", b.ruled(0), 1);
        due("IN FORCE stays", b.count(4), 1);
    }

    /** "the first (none ahead of 0, told as NONE)". */
    private static void ruledFirst() {
        for (int only = 0; only < 6; only++) {
            SpokenBite b = at("dinner 1;dish 5 0;guest 0");
            for (int rule = 0; rule < 6; rule++) {
                Due.ruleOf(b, rule == only ? "eat 1 if minute=7" : "eat 1");
            }
            b.note(7, 0, 0, 0);
            due("it alone", b.ruled(0), 1);
            due("is the first", b.ruled(1), only);
        }
        SpokenBite two = at("dinner 1;dish 5 0;guest 0", "eat 1", "eat 0", "eat 1", "eat 0");
        two.note(1, 0, 0, 0);
        due("two", two.ruled(0), 2);
        due("the first of them", two.ruled(1), 1);
    }

    /** "LOOK (n 0 to 60) what 0: the GUEST, 1: how many; -2: no RULE is so, or there are no GUESTS. NONE without these, or a DINNER." */
    private static void lookLimits() {
        SpokenBite b = at("dinner 1;dish 5 0;guest 0", "eat 1");
        for (int n : new int[] {0, 60}) {
            due("the GUEST", b.look(n, 0), 0);
            due("how many", b.look(n, 1), 2);
        }
        for (int n : new int[] {-1, 61, LEAST, MOST}) {
            due("look " + n, b.look(n, 0), -1);
            due("look " + n, b.look(n, 1), -1);
            due("look " + n + " without GUESTS", Twin.bare().look(n, 0), -1);
        }
        for (int what : new int[] {-1, 2, LEAST, MOST}) {
            due("look what " + what, b.look(0, what), -1);
            due("without GUESTS", Twin.bare().look(0, what), -1);
        }
        b.note(0, 0, 0, 1);
        due("no RULE is so", b.look(0, 0), -2);
        due("no RULE is so", b.look(0, 1), -2);
        due("no GUESTS", Twin.bare().look(0, 0), -2);
        due("no GUESTS", Twin.bare().look(60, 1), -2);
        due("without a DINNER", new SpokenBite().look(0, 0), -1);
        due("without a DINNER", new SpokenBite().look(0, 1), -1);
    }

    /** "LOOK behind the n-th MINUTE": from the begin on. */
    private static void lookMinutes() {
        SpokenBite b = at("dinner 1;dish 5 0;guest 9;guest 0", "eat 0", "eat 1 if minute=59", "eat 1 if minute=60");
        b.note(1, 1, 0, 0);
        due("three are so", b.ruled(0), 3);
        due("behind 59 all are alike", b.look(59, 1), 3);
        due("the least GUEST", b.look(59, 0), 0);
        due("behind 60 one is not", b.look(60, 1), 2);
        due("by GUEST 1", b.look(60, 0), 1);
        b.tell(0, 5);
        b.minute();
        b.force(2);
        due("whatever was done by hand", b.look(60, 0), 1);
        due("behind 0 all are alike", b.look(0, 1), 3);
    }

    /** "the GUEST by what they KNOW these part best: the most alike are fewest, of several the least; how many". */
    private static void lookParts() {
        // DISH i is heard by GUESTS i and on: none and RULES 0 to 5 eat 0, 0, 1, 2, 3, 3, nothing
        SpokenBite b = at("dinner 1;dish 9 0;dish 8 1;dish 7 2;dish 6 3;guest 9;guest 8;guest 7;guest 6;guest 6",
            "eat 1", "eat 1 if dish=1", "eat 1 if dish=2", "eat 1 if dish=3", "eat dish", "eat 0");
        due("0 and 0 are alike, 3 and 3 are for 3 and 4", b.look(1, 1), 2);
        due("GUESTS 3 and 4 hear all: the least", b.look(1, 0), 3);
        SpokenBite one = at("dinner 1;dish 9 0;guest 9;guest 9");
        due("one alone: how many", one.look(1, 1), 1);
        due("one alone: the least GUEST", one.look(1, 0), 0);
        SpokenBite last = at("dinner 1;dish 5 0;guest 6;guest 6;guest 6;guest 6;guest 5", "eat 0");
        due("the last GUEST", last.look(1, 0), 4);
        due("each alone", last.look(1, 1), 1);
        for (int guest = 0; guest < 5; guest++) {
            // one GUEST alone hears the DISH, whichever SECRET it SAYS
            StringBuilder ears = new StringBuilder();
            for (int other = 0; other < 5; other++) {
                ears.append(other == guest ? ";guest 5" : ";guest 6");
            }
            for (int secret = 0; secret < 8; secret++) {
                SpokenBite alone = at("dinner 1;dish 5 " + secret + ears, "eat 0");
                due("GUEST " + guest + " by SECRET " + secret, alone.look(1, 0), guest);
                due("each alone", alone.look(1, 1), 1);
            }
        }
        SpokenBite most = at("dinner 1;dish 9 0;dish 5 1;guest 9;guest 5", "eat dish", "eat 0", "eat 0", "eat 0");
        // GUEST 0: 0, nothing (1 is not heard), and nothing thrice: four alike; GUEST 1: 0, 1, and nothing thrice
        due("the most alike are fewest", most.look(1, 0), 1);
        due("three", most.look(1, 1), 3);
    }

    /** "x becomes a number: what it was"; "x (0 to 2147483647; 0 at first)". */
    private static void seed() {
        SpokenBite b = new SpokenBite();
        due("0 at first", b.seed(MOST), 0);
        due("the most", b.seed(0), MOST);
        due("the least", b.seed(1), 0);
        due("x", b.count(12), 1);
        SpokenBite rich = Twin.rich();
        due("what it was", rich.seed(1), 4711);
        due("no ACT", rich.count(11), 5);
    }

    /** "NONE, and nothing happens, below 0." */
    private static void seedRefused() {
        for (int x : new int[] {-1, -2, LEAST}) {
            refused("seed " + x, Twin::rich, b -> b.seed(x), -1);
            refused("seed " + x, SpokenBite::new, b -> b.seed(x), -1);
        }
    }

    /** "HICCUPS m times (1 to 10) n MINUTES (1 to 60) .. p (0 to 100)": "NONE without these, or a DINNER." */
    private static void hiccupsLimits() {
        SpokenBite b = at("dinner 1;dish 5 0;guest 0;guest 9");
        for (int m : new int[] {1, 10}) {
            for (int n : new int[] {1, 60}) {
                for (int p : new int[] {0, 100}) {
                    due("how many sit", b.hiccups(m, n, p, 0), 2 * m);
                    due("how much", b.hiccups(m, n, p, 1), m);
                }
            }
        }
        for (int what = 0; what < 2; what++) {
            for (int wrong : new int[] {LEAST, MOST, -1}) {
                due("m " + wrong, b.hiccups(wrong, 1, 0, what), -1);
                due("n " + wrong, b.hiccups(1, wrong, 0, what), -1);
                due("p " + wrong, b.hiccups(1, 1, wrong, what), -1);
                due("what " + wrong, b.hiccups(1, 1, 0, wrong), -1);
            }
            due("m 0", b.hiccups(0, 1, 0, what), -1);
            due("m 11", b.hiccups(11, 1, 0, what), -1);
            due("n 0", b.hiccups(1, 0, 0, what), -1);
            due("n 61", b.hiccups(1, 61, 0, what), -1);
            due("p 101", b.hiccups(1, 1, 101, what), -1);
            due("without a DINNER", new SpokenBite().hiccups(1, 1, 0, what), -1);
            due("a bare DINNER", Twin.bare().hiccups(10, 60, 100, what), 0);
        }
        due("what 2", b.hiccups(1, 1, 0, 2), -1);
    }

    /** "n MINUTES (1 to 60) from now on". */
    private static void hiccupsMinutes() {
        SpokenBite b = at("dinner 1;dish 5 0;guest 0", "eat 1 if minute=60");
        b.force(0);
        due("60 from 0 on", b.hiccups(1, 60, 0, 1), 0);
        b.minute();
        due("59 from 1 on", b.hiccups(1, 59, 0, 1), 0);
        due("60 from 1 on", b.hiccups(1, 60, 0, 1), 1);
        SpokenBite offered = at("dinner 1;dish 5 0;dish 5 1;guest 0;clash 1 2");
        offered.tell(0, 2);
        offered.offer(1);
        due("as it is: what is OFFERED", offered.hiccups(1, 1, 0, 0), 0);
        due("as it is: what is known", offered.hiccups(1, 1, 0, 1), 2);
    }

    private static long next(long x) {
        return (x * 1103515245L + 12345L) % 2147483648L;
    }

    /** Numbers from all over, so that all DRAWS are among those that follow. */
    private static int seedOf(int i) {
        return (int) (i * 1597334677L % 2147483648L);
    }

    private static int drawOf(long x) {
        return (int) (x / 65536);
    }

    /**
     * DISH 0, LOUD 20, lies in PLACE 1; GUEST 0, EARS 20, KNOWS nothing but 1, and LEAVES by what DISH 0 says: hears it
     * only if it came up on the table and is eaten anew.
     */
    private static SpokenBite swallowed(int deep) {
        SpokenBite b = at("dinner " + deep + ";dish 20 0;guest 20;clash 0 1;clash 6 7");
        b.tell(0, 6);
        b.tell(0, 7);
        b.minute();
        b.fetch(0);
        b.tell(0, 1);
        due("in PLACE 1", b.dish(0, 2), deep == 1 ? -2 : 1);
        due("KNOWS 1 alone", b.guest(0, 1), 2);
        return b;
    }

    /** "ahead of each a DRAW mod 100: is it below p (0 to 100), a DRAW mod DEEP: a DISH in that PLACE .. is on the table again". */
    private static void hiccupsBelow() {
        SpokenBite b = swallowed(2);
        int below = 0;
        for (int seed = 0; seed < 60; seed++) {
            int x = seedOf(seed);
            b.seed(x);
            long first = next(x);
            int drawn = drawOf(first) % 100;
            boolean ofPlaceOne = drawOf(next(first)) % 2 == 1;
            below += ofPlaceOne ? 1 : 0;
            due("seed " + x + ": " + drawn + " is not below itself", b.hiccups(1, 1, drawn, 0), 1);
            due("seed " + x + ": it is below one more", b.hiccups(1, 1, drawn + 1, 0), ofPlaceOne ? 0 : 1);
            due("seed " + x + ": nothing is below 0", b.hiccups(1, 1, 0, 1), 1);
            due("seed " + x + ": all are below 100", b.hiccups(1, 1, 100, 1), ofPlaceOne ? 2 : 1);
        }
        due("both were seen", below > 9 && below < 51 ? 1 : 0, 1);
        SpokenBite most = swallowed(2);
        most.seed(MOST);
        long first = next(MOST);
        due("x goes round", most.hiccups(1, 1, 100, 0), drawOf(next(first)) % 2 == 1 ? 0 : 1);
    }

    /** How many of m dinners the GUEST stays in: the DRAWS by themselves. */
    private static int staysIn(int deep, long seed, int m, int n, int p) {
        long x = seed;
        int stays = 0;
        for (int time = 0; time < m; time++) {
            int place = 1;
            boolean cameUp = false;
            for (int i = 0; i < n; i++) {
                x = next(x);
                if (drawOf(x) % 100 < p) {
                    x = next(x);
                    if (drawOf(x) % deep == place) {
                        cameUp = true;
                        place = 0;
                    }
                }
                place = place + 1 < deep ? place + 1 : 99;
            }
            stays += cameUp ? 0 : 1;
        }
        return stays;
    }

    /** ".. a DRAW mod DEEP: a DISH in that PLACE, if there is one": ahead of each of n MINUTES. */
    private static void hiccupsPlaces() {
        for (int deep = 1; deep <= 6; deep++) {
            SpokenBite b = swallowed(deep);
            for (int seed = 0; seed < 20; seed++) {
                int x = seedOf(seed);
                b.seed(x);
                int n = 1 + seed % 8;
                due("DEEP " + deep + ", seed " + x, b.hiccups(1, n, 100, 0), staysIn(deep, x, 1, n, 100));
                due("DEEP " + deep + ", seed " + x, b.hiccups(1, n, 50, 0), staysIn(deep, x, 1, n, 50));
            }
        }
    }

    /** "a DISH in that PLACE": it alone is in the throat no more. */
    private static void hiccupsOutOfThatPlace() {
        // DISHES 0 to 4 lie in PLACES 5 to 1 and sound alike, he eats no more: GUEST 0 hears all that are there
        SpokenBite b = at("dinner 6;dish 15 0;dish 14 1;dish 13 2;dish 12 3;dish 11 4;guest 0;clash 6 7", "eat 0");
        b.tell(0, 6);
        b.tell(0, 7);
        for (int i = 0; i < 5; i++) {
            b.minute();
        }
        b.fetch(0);
        b.force(0);
        due("all five without", b.hiccups(1, 1, 0, 1), 5);
        int[] seen = new int[6];
        for (int seed = 0; seed < 60; seed++) {
            int x = seedOf(seed);
            b.seed(x);
            int place = drawOf(next(next(x))) % 6;
            seen[place]++;
            due("without PLACE " + place, b.hiccups(1, 1, 100, 1), place == 0 ? 5 : 4);
        }
        for (int place = 0; place < 6; place++) {
            due("PLACE " + place + " was drawn", seen[place] > 0 ? 1 : 0, 1);
        }
    }

    /** ".. is on the table again": with what is there. */
    private static void hiccupsOntoTheTable() {
        // DISH 1 lies in PLACE 1, DISHES 0 and 2 on the table: it is eaten if there are three, and is as loud as 5 again
        SpokenBite b = at("dinner 2;dish 0 0;dish 5 1;dish 0 2;guest 5;clash 6 7", "eat 1 if left=3 and dish=1");
        b.tell(0, 6);
        b.tell(0, 7);
        b.offer(1);
        b.minute();
        b.fetch(0);
        b.force(0);
        int hits = 0;
        for (int seed = 0; seed < 20; seed++) {
            int x = seedOf(seed);
            b.seed(x);
            int place = drawOf(next(next(x))) % 2;
            hits += place;
            due("seed " + x, b.hiccups(1, 1, 100, 1), place);
        }
        due("both were seen", hits > 2 && hits < 18 ? 1 : 0, 1);
    }

    /** "how many GUESTS sit at the end; how much all KNOW then, all together": of m dinners, the DRAWS going on. */
    private static void hiccupsManyTimes() {
        for (int m = 1; m <= 10; m++) {
            SpokenBite b = swallowed(4);
            for (int p = 0; p <= 100; p += 20) {
                int x = seedOf(77 * m + p);
                b.seed(x);
                int stays = staysIn(4, x, m, 3, p);
                due("how many sit, " + m + " times", b.hiccups(m, 3, p, 0), stays);
                due("how much all KNOW, " + m + " times", b.hiccups(m, 3, p, 1), 2 * m - stays);
            }
        }
    }

    /** "(nothing stays; x as it was)". */
    private static void hiccupsKeepX() {
        refused("hiccups", () -> swallowed(3), b -> b.hiccups(10, 60, 100, 1) > 0 ? 1 : 0, 1);
        SpokenBite b = swallowed(3);
        b.seed(5);
        int once = b.hiccups(3, 3, 50, 1);
        due("the same again", b.hiccups(3, 3, 50, 1), once);
        due("x as it was", b.count(12), 5);
    }
}
