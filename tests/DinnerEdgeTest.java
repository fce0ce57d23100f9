/** The terms of a DINNER's text, and promises 1 to 4, sentence by sentence: each limit on both sides. */
final class DinnerEdgeTest {
    private static final Due DUE = new Due();
    private static final int LEAST = Integer.MIN_VALUE;
    private static final int MOST = Integer.MAX_VALUE;

    public static void main(String[] args) {
        newObject();
        feedCounts();
        feedHighestFirst();
        feedFull();
        endLimits();
        endCuts();
        bytesAtMost();
        clausesAtMost();
        dinnerOnceAndFirst();
        deepLimits();
        dishLimits();
        guestLimits();
        clashLimits();
        clashToldAlready();
        dishesAtMost();
        guestsAtMost();
        inTheOrderTold();
        blanks();
        wordsEnd();
        numbersEnd();
        theEnd();
        firstAlongTheText();
        leastOfOnePlace();
        begins();
        dinnerTakesTheTape();
        dinnerInPlace();
        dinnerRefused();
        DUE.close();
    }

    private static void due(String call, long got, long want) {
        DUE.due(call, got, want);
    }

    private static void good(String text, int dishes) {
        due("dinner of '" + text + "'", Due.dinnerOf(new SpokenBite(), text), dishes);
    }

    private static void faulty(String text, int place, int kind) {
        due("dinner of '" + text + "'", Due.dinnerOf(new SpokenBite(), text), Due.faulty(place, kind));
    }

    private static SpokenBite at(String text) {
        SpokenBite b = new SpokenBite();
        due("dinner of '" + text + "' is one", Due.dinnerOf(b, text) >= 0 ? 1 : 0, 1);
        return b;
    }

    /** "No DINNER, no RULES, none IN FORCE." And: "x (.. 0 at first)". */
    private static void newObject() {
        SpokenBite b = new SpokenBite();
        int[] counts = {0, 0, 0, 0, -1, 0, 0, 0, 0, -1, 0, 0, 0, 0};
        for (int what = 0; what < counts.length; what++) {
            due("a new object: count " + what, b.count(what), counts[what]);
        }
        due("no DINNER: dish", b.dish(0, 0), -3);
        due("no DINNER: guest", b.guest(0, 0), -1);
        due("no DINNER: clashes", b.clashes(0), -1);
        due("no DINNER: throat", b.throat(0), -2);
        due("no DINNER: minute", b.minute(), -1);
        due("no RULES", b.force(0), -2);
        due("none IN FORCE", b.force(-1), -1);
        due("nothing to be UNDONE", b.undo(), -1);
        for (int k = 0; k < 4; k++) {
            due("no IMAGES", b.back(k), -1);
        }
        due("x is 0", b.seed(0), 0);
    }

    /** "Twenty bytes come behind the TAPE ..: how many it has". */
    private static void feedCounts() {
        SpokenBite b = new SpokenBite();
        due("behind an empty one", b.feed(1, 2, 3, 4, 5), 20);
        due("behind twenty", b.feed(LEAST, MOST, 0, -1, 1), 40);
        b.end(7);
        due("behind seven", b.feed(0, 0, 0, 0, 0), 27);
        due("count tells the same", b.count(13), 27);
        SpokenBite c = new SpokenBite();
        c.feed(0x64696e6e, 0x65722031, 0x3b646973, 0x68203220, 0x333b6469); // "dinner 1;dish 2 3;di"
        c.feed(0x73682034, 0x20353b67, 0x75657374, 0x20363b67, 0x75657374); // "sh 4 5;guest 6;guest"
        c.feed(0x20372020, 0x20202020, 0x20202020, 0x20202020, 0x20202020); // " 7"
        due("behind what is there", c.dinner(), 2);
        due("loud across two feeds", c.dish(1, 0), 4);
        due("ears across two feeds", c.guest(1, 0), 7);
    }

    /** "of each number the highest first": a text of twenty unlike places, and a strange byte in each of them. */
    private static void feedHighestFirst() {
        String text = "dinner 1; clash 0 1 ";
        good(text, 0);
        for (int place = 0; place < 20; place++) {
            String strange = text.substring(0, place) + (char) 255 + text.substring(place + 1);
            SpokenBite b = new SpokenBite();
            Due.feedText(b, strange);
            // the WORD around it is none, and begins further ahead
            int want = place < 6 ? 0 : place > 10 && place < 15 ? 10 : place;
            due("a strange byte in " + place, b.dinner(), Due.faulty(want, 0));
        }
    }

    /** "NONE, and none comes, if it would have more than 400." */
    private static void feedFull() {
        for (int have = 379; have <= 400; have++) {
            int many = have;
            Twin.Setup setup = () -> {
                SpokenBite b = new SpokenBite();
                Due.feedText(b, "eat 1" + " ".repeat(395));
                b.end(many);
                return b;
            };
            if (have <= 380) {
                due("feed behind " + have, setup.make().feed(0, 0, 0, 0, 0), have + 20);
            } else {
                Twin.changesNothing(DUE, "feed behind " + have, setup, b -> b.feed(0, 0, 0, 0, 0), -1);
                SpokenBite b = setup.make();
                b.feed(-1, -1, -1, -1, -1);
                due("none came", b.count(13), have);
                due("no byte of it came", b.rule(), 0);
            }
        }
    }

    /** "n; NONE, and nothing happens, if it has not so many, or n is below 0." */
    private static void endLimits() {
        SpokenBite empty = new SpokenBite();
        due("end 0 of none", empty.end(0), 0);
        due("end 1 of none", empty.end(1), -1);
        SpokenBite b = new SpokenBite();
        b.feed(1, 2, 3, 4, 5);
        due("all of them", b.end(20), 20);
        due("still all", b.count(13), 20);
        due("one less", b.end(19), 19);
        due("cut", b.count(13), 19);
        due("not longer again", b.end(20), -1);
        due("the first one", b.end(1), 1);
        due("none", b.end(0), 0);
        due("empty", b.count(13), 0);
        SpokenBite full = new SpokenBite();
        for (int i = 0; i < 20; i++) {
            full.feed(0, 0, 0, 0, 0);
        }
        due("400", full.end(400), 400);
        due("401", full.end(401), -1);
        for (int n : new int[] {-1, 11, -2, 400, 401, LEAST, MOST}) {
            Twin.changesNothing(DUE, "end " + n + " of ten", Twin::rich, t -> t.end(n), -1);
        }
        due("end 10 of ten", Twin.rich().end(10), 10);
    }

    /** "The TAPE has its first n bytes alone". */
    private static void endCuts() {
        SpokenBite b = new SpokenBite();
        Due.feedText(b, "dinner 6;dish 4 5;;;");
        b.end(17);
        due("the first 17", b.dinner(), 1);
        Due.feedText(b, "dinner 6;dish 4 5;;;");
        b.end(8);
        due("the first 8", b.dinner(), 0);
        Due.feedText(b, "dinner 6;dish 4 5;;;");
        b.end(8);
        b.feed(0x3b677565, 0x73742039, 0x20202020, 0x20202020, 0x20202020); // ";guest 9"
        due("what comes, comes right behind these", b.dinner(), 0);
        due("and is read", b.guest(0, 0), 9);
    }

    /** "A DINNER is a text of at most 400 bytes". */
    private static void bytesAtMost() {
        String text = "dinner 1" + " ".repeat(384) + ";guest 5";
        due("400 bytes it has", text.length(), 400);
        SpokenBite b = at(text);
        due("all of them are read", b.count(2), 1);
        due("the last one", b.guest(0, 0), 5);
        faulty("dinner 1" + " ".repeat(384) + ";guest x", 399, 0);
        faulty("dinner 1" + " ".repeat(385) + ";guest ", 400, 0);
    }

    /** "CLAUSE { ; CLAUSE }, 40 at most"; "4 one CLAUSE too many .. (at its first byte)". */
    private static void clausesAtMost() {
        String forty = "dinner 1" + ";clash0 1".repeat(39);
        good(forty, 0);
        for (String more : new String[] {"clash0 1", "dish 1 1", "guest 1", "dinner 1", "clash", "dish 99", "guest ;"}) {
            faulty(forty + ";" + more, 360, 4);
        }
        faulty(forty + ";  guest 1", 362, 4);
        faulty(forty + ";eat 1", 360, 0);
        faulty(forty + ";", 360, 0);
        faulty(forty + "; ", 361, 0);
        faulty(forty + ";;", 360, 0);
        faulty(forty + ";7", 360, 0);
        good("dinner 1" + ";clash0 1".repeat(38), 0);
        good("dinner 1" + ";clash0 1".repeat(31) + ";dish 1 1".repeat(8), 8);
        good("dinner 1" + ";clash0 1".repeat(26) + ";dish 1 1".repeat(8) + ";guest 1".repeat(5), 8);
        faulty("dinner 1" + ";clash0 1".repeat(27) + ";dish 1 1".repeat(8) + ";guest 1".repeat(5), 356, 4);
    }

    /** "dinner NUMBER (.. once, the first CLAUSE)"; "4 .. a second dinner, another CLAUSE ahead of it". */
    private static void dinnerOnceAndFirst() {
        good("dinner 1", 0);
        faulty("dinner 1;dinner 1", 9, 4);
        faulty("dinner 1; dinner", 10, 4);
        faulty("dinner 1;guest 1;dinner 2", 17, 4);
        faulty("dish 1 1", 0, 4);
        faulty("dish 1 1;dinner 1", 0, 4);
        faulty("guest 1", 0, 4);
        faulty("clash 1 2", 0, 4);
        faulty("  clash 1 2;dinner 1", 2, 4);
        faulty("dish", 0, 4);
        faulty("dish 99 99", 0, 4);
    }

    /** "DEEP 1 to 6". */
    private static void deepLimits() {
        faulty("dinner 0", 7, 1);
        for (int deep = 1; deep <= 6; deep++) {
            due("DEEP", at("dinner " + deep).count(0), deep);
        }
        faulty("dinner 7", 7, 1);
        faulty("dinner 99999", 7, 1);
        faulty("dinner 00000", 7, 1);
        faulty("dinner 10", 7, 1);
        due("DEEP 00006", at("dinner 00006").count(0), 6);
    }

    /** "dish NUMBER NUMBER (LOUD 0 to 20; the SECRET it SAYS, 0 to 7)". */
    private static void dishLimits() {
        for (int loud = 0; loud <= 20; loud++) {
            SpokenBite b = at("dinner 1;dish " + loud + " " + loud % 8);
            due("LOUD", b.dish(0, 0), loud);
            due("SAYS", b.dish(0, 1), loud % 8);
        }
        faulty("dinner 1;dish 21 0", 14, 1);
        faulty("dinner 1;dish 99999 0", 14, 1);
        faulty("dinner 1;dish 20 8", 17, 1);
        faulty("dinner 1;dish 20 99999", 17, 1);
        faulty("dinner 1;dish 21 8", 14, 1);
        faulty("dinner 1;dish", 13, 0);
        faulty("dinner 1;dish 5", 15, 0);
        faulty("dinner 1;dish 5 5 5", 18, 0);
        faulty("dinner 1;dish -1 0", 14, 0);
        faulty("dinner 1;dish 1 -1", 16, 0);
        faulty("dinner 1;dish 1,1", 15, 0);
    }

    /** "guest NUMBER (EARS 0 to 20)". */
    private static void guestLimits() {
        for (int ears = 0; ears <= 20; ears++) {
            due("EARS", at("dinner 1;guest " + ears).guest(0, 0), ears);
        }
        faulty("dinner 1;guest 21", 15, 1);
        faulty("dinner 1;guest 99999", 15, 1);
        faulty("dinner 1;guest", 14, 0);
        faulty("dinner 1;guest 1 1", 17, 0);
        faulty("dinner 1;guest -1", 15, 0);
    }

    /** "clash NUMBER NUMBER (two SECRETS ..)"; "1 .. not as told (of clash the second SECRET, if it is the first)". */
    private static void clashLimits() {
        for (int one = 0; one < 8; one++) {
            for (int other = 0; other < 8; other++) {
                String text = "dinner 1;clash " + one + " " + other;
                if (one == other) {
                    faulty(text, 17, 1);
                } else {
                    SpokenBite b = at(text);
                    for (int secret = 0; secret < 8; secret++) {
                        int want = secret == one ? 1 << other : secret == other ? 1 << one : 0;
                        due(text + ": clashes " + secret, b.clashes(secret), want);
                    }
                }
            }
        }
        faulty("dinner 1;clash 8 0", 15, 1);
        faulty("dinner 1;clash 0 8", 17, 1);
        faulty("dinner 1;clash 8 8", 15, 1);
        faulty("dinner 1;clash 3 00003", 17, 1);
        faulty("dinner 1;clash 3 000003", 17, 1);
        faulty("dinner 1;clash 3", 16, 0);
        faulty("dinner 1;clash", 14, 0);
        faulty("dinner 1;clash 3 4 5", 19, 0);
    }

    /** "told already, either way round: nothing new". */
    private static void clashToldAlready() {
        SpokenBite b = at("dinner 1;clash 2 5;clash 2 5;clash 5 2;clash 5 7;clash 2 5");
        due("clashes 2", b.clashes(2), 32);
        due("clashes 5", b.clashes(5), 4 + 128);
        due("clashes 7", b.clashes(7), 32);
        faulty("dinner 1" + ";clash0 1;clash1 0".repeat(20), 360, 4);
    }

    /** "DISHES 0 to 7"; "4 .. a ninth DISH (at its first byte)". */
    private static void dishesAtMost() {
        for (int many = 0; many <= 8; many++) {
            SpokenBite b = at("dinner 1" + ";dish 1 1".repeat(many));
            due("DISHES", b.count(1), many);
            due("all on the table", b.count(6), (1 << many) - 1);
            due("the last", b.dish(many - 1, 2), many == 0 ? -3 : -1);
            due("one behind it", b.dish(many, 2), -3);
        }
        String eight = "dinner 1" + ";dish 1 1".repeat(8);
        faulty(eight + ";dish 1 1", 81, 4);
        faulty(eight + ";dish 21 8", 81, 4);
        faulty(eight + ";guest 1; dish", 90, 4);
        faulty(eight + ";dishes", 81, 0);
        good(eight + ";guest 1;clash 1 2", 8);
    }

    /** "GUESTS 0 to 4"; "4 .. a sixth GUEST (at its first byte)". */
    private static void guestsAtMost() {
        for (int many = 0; many <= 5; many++) {
            SpokenBite b = at("dinner 1" + ";guest 1".repeat(many));
            due("GUESTS", b.count(2), many);
            due("all sit", b.count(7), (1 << many) - 1);
            due("the last", b.guest(many - 1, 2), many == 0 ? -1 : 1);
            due("one behind it", b.guest(many, 2), -1);
        }
        String five = "dinner 1" + ";guest 1".repeat(5);
        faulty(five + ";guest 1", 49, 4);
        faulty(five + ";guest", 49, 4);
        faulty(five + ";guest 21", 49, 4);
        faulty(five + ";dish 1 1;guest 1", 58, 4);
        faulty(five + ";guests", 49, 0);
        good(five + ";dish 1 1;clash 1 2", 1);
    }

    /** "DISHES .., GUESTS .., in the order told." */
    private static void inTheOrderTold() {
        SpokenBite b = at("dinner 1;guest 9;dish 3 4;clash 0 1;guest 8;dish 2 6;guest 7;dish 1 5");
        for (int i = 0; i < 3; i++) {
            due("EARS of " + i, b.guest(i, 0), 9 - i);
            due("LOUD of " + i, b.dish(i, 0), 3 - i);
        }
        due("SAYS of 0", b.dish(0, 1), 4);
        due("SAYS of 1", b.dish(1, 1), 6);
        due("SAYS of 2", b.dish(2, 1), 5);
    }

    /** "Blanks (32) stand between as one likes." Other bytes are none. */
    private static void blanks() {
        good("   dinner    1   ;   dish   5    5   ;  guest  5  ;  clash  0   1   ", 1);
        good("dinner1;dish5 5;guest5;clash0 1", 1);
        for (int sign : new int[] {0, 9, 10, 13, 31, 33, 128, 160, 255}) {
            faulty("dinner 1" + (char) sign, 8, 0);
            faulty("dinner" + (char) sign + "1", 6, 0);
            faulty("dinner 1;dish 5" + (char) sign + "5", 15, 0);
            faulty((char) sign + "dinner 1", 0, 0);
        }
        faulty("din ner 1", 0, 0);
        faulty("dinner 1 1", 9, 0);
        faulty("dinner 1;dish 55", 14, 1);
    }

    /** WORDS: "small letters, as far as these go on". */
    private static void wordsEnd() {
        faulty("dinnera 1", 0, 0);
        faulty("dinne 1", 0, 0);
        faulty("dinnerdish 1", 0, 0);
        faulty("dinner 1;guestz 1", 9, 0);
        faulty("dinner 1;clas 1 2", 9, 0);
        faulty("DINNER 1", 0, 0);
        faulty("dinneR 1", 0, 0);
        faulty("dinner 1;Dish 1 1", 9, 0);
        faulty("dinner 1;eat 1", 9, 0);
        faulty("dinner`1", 6, 0);
        faulty("dinner{1", 6, 0);
        faulty("dinner dinner", 7, 0);
    }

    /** NUMBER: "1 to 5 digits, as far as digits go on"; "1 a NUMBER of more digits". */
    private static void numbersEnd() {
        good("dinner 00001;dish 00020 00007;guest 00000;clash 00000 00001", 1);
        faulty("dinner 000001", 7, 1);
        faulty("dinner 1;dish 000020 1", 14, 1);
        faulty("dinner 1;dish 1 000001", 16, 1);
        faulty("dinner 1;guest 000001", 15, 1);
        faulty("dinner 1;clash 000001 2", 15, 1);
        faulty("dinner 1;clash 1 000002", 17, 1);
        faulty("dinner " + "0".repeat(392) + "1", 7, 1);
        faulty("dinner 4294967297", 7, 1);
        faulty("dinner 1/", 8, 0);
        faulty("dinner 1:", 8, 0);
        faulty("dinner /", 7, 0);
        faulty("dinner :", 7, 0);
        faulty("dinner 1;dish 1 1a", 17, 0);
    }

    /** "0 .. or the end (behind the last byte)". */
    private static void theEnd() {
        faulty("", 0, 0);
        faulty(" ", 1, 0);
        faulty(" ".repeat(400), 400, 0);
        faulty("dinner", 6, 0);
        faulty("dinner ", 7, 0);
        faulty("dinner 1;", 9, 0);
        faulty("dinner 1;   ", 12, 0);
        faulty("dinner 1;dish 1 ", 16, 0);
        faulty("dinner 1;clash 1   ", 19, 0);
    }

    /** "FAULTS, the first along the text". */
    private static void firstAlongTheText() {
        faulty("dinner 9;dish 99 99;x", 7, 1);
        faulty("dinner 1;x;dinner 9", 9, 0);
        faulty("dinner 1;dinner 9", 9, 4);
        faulty("dinner 1;dish 1 8;guest 21", 16, 1);
        faulty("dinner 1 x;dish 21 8", 9, 0);
        faulty("guest 21;dinner 9", 0, 4);
    }

    /** "Of one place the least." A NUMBER where none can stand is 0, however many digits it has. */
    private static void leastOfOnePlace() {
        faulty("dinner 1 1234567", 9, 0);
        faulty("1234567", 0, 0);
        faulty("dinner 1;guest 5 1234567", 17, 0);
        faulty("dinner 1" + ";dish 1 1".repeat(8) + ";dishy", 81, 0);
    }

    /** "It is MINUTE 0; all DISHES are on the table, nothing is in the throat, nobody KNOWS anything, all GUESTS sit, nothing is OFFERED." */
    private static void begins() {
        for (int times = 0; times < 2; times++) {
            SpokenBite b = times == 0 ? new SpokenBite() : Twin.rich();
            due("a dinner", Due.dinnerOf(b, "dinner 6" + ";dish 9 1".repeat(7) + ";guest 3".repeat(4)), 7);
            due("MINUTE 0", b.count(5), 0);
            due("all on the table", b.count(6), 127);
            due("all sit", b.count(7), 15);
            due("nobody KNOWS anything", b.count(8), 0);
            due("nothing is OFFERED", b.count(9), -1);
            for (int i = 0; i < 7; i++) {
                due("on the table", b.dish(i, 2), -1);
                due("in the throat", b.throat(i), i < 6 ? -1 : -2);
                due("KNOWS, sits", b.guest(i, 1) * 2 + b.guest(i, 2), i < 4 ? 1 : -3);
            }
            for (int secret = 0; secret < 8; secret++) {
                due("no clash of the one before", b.clashes(secret), 0);
                due("known to nobody", b.knowing(secret), 0);
            }
        }
    }

    /** "The TAPE, which is empty then, is the DINNER ..: how many DISHES". */
    private static void dinnerTakesTheTape() {
        SpokenBite b = new SpokenBite();
        Due.feedText(b, "dinner 4;dish 1 1;dish 2 2");
        due("how many DISHES", b.dinner(), 2);
        due("the TAPE is empty", b.count(13), 0);
        due("so it is no DINNER now", b.dinner(), Due.faulty(0, 0));
        due("and what comes is all of it", b.feed(0, 0, 0, 0, 0), 20);
        due("the DINNER stays", b.count(0), 4);
    }

    /** "in place of the one there was (no NOTES, nothing to be UNDONE; the RULE IN FORCE and x stay)". */
    private static void dinnerInPlace() {
        SpokenBite b = Twin.rich();
        due("another one", Due.dinnerOf(b, "dinner 2;dish 4 4;guest 1"), 1);
        int[] counts = {2, 1, 1, 3, 1, 0, 1, 1, 0, -1, 0, 0, 4711, 0};
        for (int what = 0; what < counts.length; what++) {
            due("count " + what, b.count(what), counts[what]);
        }
        due("no DISH of the one there was", b.dish(1, 0), -3);
        due("no GUEST of it", b.guest(1, 0), -1);
        due("no PLACE of it", b.throat(2), -2);
        due("no clash of it", b.clashes(0), 0);
        due("no NOTES: all RULES are so", b.ruled(0), 4);
        due("nothing to be UNDONE", b.undo(), -1);
        due("IMAGES stay", b.back(2), 3);
        due("with the DINNER there was", b.count(1), 5);
    }

    /** "-2 - its FAULT, and all stays". */
    private static void dinnerRefused() {
        String[] texts = {"", "dinner", "dinner 9", "dinner 1;dinner 1", "dinner 1;dish 1 1;guest 1;clash 1 1", "eat 1"};
        int[] faults = {Due.faulty(0, 0), Due.faulty(6, 0), Due.faulty(7, 1), Due.faulty(9, 4), Due.faulty(34, 1), Due.faulty(0, 0)};
        for (int i = 0; i < texts.length; i++) {
            String text = texts[i];
            Twin.Setup setup = () -> {
                SpokenBite b = Twin.rich();
                b.end(0);
                Due.feedText(b, text);
                return b;
            };
            Twin.changesNothing(DUE, "dinner of '" + text + "'", setup, SpokenBite::dinner, faults[i]);
            due("the TAPE stays", tapedAfterDinner(setup.make()), text.length());
        }
        Twin.changesNothing(DUE, "dinner of nothing, without a DINNER", SpokenBite::new, SpokenBite::dinner, -3);
    }

    private static int tapedAfterDinner(SpokenBite b) {
        b.dinner();
        return b.count(13);
    }
}
