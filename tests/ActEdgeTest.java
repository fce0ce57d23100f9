/** What a MINUTE and the other ACTS do, and promises 6 to 16, sentence by sentence: each limit on both sides. */
final class ActEdgeTest {
    private static final Due DUE = new Due();
    private static final int LEAST = Integer.MIN_VALUE;
    private static final int MOST = Integer.MAX_VALUE;

    public static void main(String[] args) {
        force();
        forceRefused();
        dish();
        guest();
        clashes();
        throat();
        places();
        eatsTheOffered();
        eatsTheGreatest();
        eatsTheLeast();
        nothingToEat();
        soundsByPlace();
        aboveZero();
        earsThatOrLess();
        whoLeftHearsNothing();
        allOfTheseAreHeard();
        leaves();
        leavesAtOnce();
        minuteAnswers();
        minuteRefused();
        lastMinute();
        offer();
        offerRefused();
        serve();
        serveRefused();
        fetch();
        fetchRefused();
        tell();
        tellRefused();
        eachActIsUndone();
        undoLastFirst();
        undoTwenty();
        undoRefused();
        undoLeavesTheRest();
        undoneAndDoneAgain();
        DUE.close();
    }

    private static void due(String call, long got, long want) {
        DUE.due(call, got, want);
    }

    private static SpokenBite at(String text) {
        SpokenBite b = new SpokenBite();
        due("dinner of '" + text + "' is one", Due.dinnerOf(b, text) >= 0 ? 1 : 0, 1);
        return b;
    }

    private static void refused(String name, Twin.Setup setup, Twin.Call call, int want) {
        Twin.changesNothing(DUE, name, setup, call, want);
    }

    private static void minutes(SpokenBite b, int many) {
        for (int i = 0; i < many; i++) {
            due("a MINUTE is", b.minute() >= 0 ? 1 : 0, 1);
        }
    }

    /** "A RULE is IN FORCE (NONE: none): which was". */
    private static void force() {
        SpokenBite b = new SpokenBite();
        for (int i = 0; i < 6; i++) {
            due("one behind the last", b.force(i), -2);
            Due.ruleOf(b, "eat " + i);
            due("the last, without a DINNER", b.force(i), i - 1);
            due("IN FORCE", b.count(4), i);
        }
        due("6", b.force(6), -2);
        due("the first", b.force(0), 5);
        due("the same again", b.force(0), 0);
        due("NONE", b.force(-1), 0);
        due("none", b.count(4), -1);
        due("NONE again", b.force(-1), -1);
        SpokenBite rich = Twin.rich();
        due("is no ACT", rich.force(2), 1);
        due("ACTS", rich.count(11), 5);
        due("undo leaves it", rich.undo(), 4);
        due("IN FORCE still", rich.count(4), 2);
    }

    /** "-2, and nothing happens, if there is none such." */
    private static void forceRefused() {
        for (int rule : new int[] {-2, 3, 4, 5, 6, LEAST, MOST}) {
            refused("force " + rule + " of three", Twin::rich, b -> b.force(rule), -2);
        }
        refused("force 0 of none", SpokenBite::new, b -> b.force(0), -2);
        refused("force -2 of none", SpokenBite::new, b -> b.force(-2), -2);
    }

    /** "what 0: LOUD, 1: what it SAYS, 2: where it is: its PLACE in the throat, NONE: on the table, -2: EATEN. -3 without these." */
    private static void dish() {
        SpokenBite b = Twin.rich();
        int[][] wanted = {{5, 0, -2}, {9, 1, 2}, {7, 2, 1}, {3, 3, -1}, {6, 4, -1}};
        for (int dish = 0; dish < 5; dish++) {
            for (int what = 0; what < 3; what++) {
                due("dish " + dish + " what " + what, b.dish(dish, what), wanted[dish][what]);
            }
        }
        for (int dish : new int[] {-1, 5, 7, 8, LEAST, MOST}) {
            for (int what = 0; what < 3; what++) {
                due("dish " + dish, b.dish(dish, what), -3);
            }
        }
        for (int what : new int[] {-1, 3, LEAST, MOST}) {
            due("dish what " + what, b.dish(0, what), -3);
            due("without these", b.dish(5, what), -3);
            due("without a DINNER", new SpokenBite().dish(0, what), -3);
        }
        due("without a DINNER", new SpokenBite().dish(0, 0), -3);
        due("without DISHES", Twin.bare().dish(0, 0), -3);
        refused("dish 5 what 0", Twin::rich, t -> t.dish(5, 0), -3);
    }

    /** "what 0: EARS, 1: what they KNOW, as bits, 2: 1 if they sit, else 0. NONE without these." */
    private static void guest() {
        SpokenBite b = Twin.rich();
        int[][] wanted = {{4, 3, 0}, {8, 2 + 128, 1}, {2, 3, 0}};
        for (int guest = 0; guest < 3; guest++) {
            for (int what = 0; what < 3; what++) {
                due("guest " + guest + " what " + what, b.guest(guest, what), wanted[guest][what]);
            }
        }
        for (int guest : new int[] {-1, 3, 4, 5, 8, LEAST, MOST}) {
            for (int what = 0; what < 3; what++) {
                due("guest " + guest, b.guest(guest, what), -1);
            }
        }
        for (int what : new int[] {-1, 3, LEAST, MOST}) {
            due("guest what " + what, b.guest(0, what), -1);
        }
        due("without a DINNER", new SpokenBite().guest(0, 2), -1);
        due("without GUESTS", Twin.bare().guest(0, 2), -1);
        refused("guest 3 what 0", Twin::rich, t -> t.guest(3, 0), -1);
    }

    /** "SECRETS that clash with one, as bits; NONE without it (0 to 7), or a DINNER." */
    private static void clashes() {
        SpokenBite b = at("dinner 1" + ";clash 7 0;clash 7 1;clash 2 7;clash 7 3;clash 7 4;clash 7 5;clash 7 6");
        due("with all others", b.clashes(7), 127);
        for (int secret = 0; secret < 7; secret++) {
            due("with 7", b.clashes(secret), 128);
        }
        due("with none", Twin.bare().clashes(0), 0);
        for (int secret : new int[] {-1, 8, LEAST, MOST}) {
            due("clashes " + secret, b.clashes(secret), -1);
        }
        due("without a DINNER", new SpokenBite().clashes(0), -1);
        due("without a DINNER", new SpokenBite().clashes(7), -1);
    }

    /** "The DISH in a PLACE of the throat; NONE: there is none; -2 without that PLACE." */
    private static void throat() {
        for (int deep = 1; deep <= 6; deep++) {
            SpokenBite b = at("dinner " + deep);
            due("the first PLACE", b.throat(0), -1);
            due("the last PLACE", b.throat(deep - 1), -1);
            due("behind it", b.throat(deep), -2);
            due("ahead of the first", b.throat(-1), -2);
        }
        SpokenBite b = Twin.rich();
        due("PLACE 0 is empty behind a MINUTE", b.throat(0), -1);
        due("PLACE 1", b.throat(1), 2);
        due("PLACE 2", b.throat(2), 1);
        for (int place : new int[] {3, 4, -2, 8, LEAST, MOST}) {
            due("throat " + place, b.throat(place), -2);
        }
        due("without a DINNER", new SpokenBite().throat(0), -2);
        due("without a DINNER", new SpokenBite().throat(-1), -2);
    }

    /** "PLACES of the throat: 0 (the first) to DEEP - 1"; "(4) All in the throat goes one PLACE on; what was in the last is EATEN." */
    private static void places() {
        for (int deep = 1; deep <= 6; deep++) {
            SpokenBite b = at("dinner " + deep + ";dish 20 0");
            due("on the table", b.dish(0, 2), -1);
            for (int gone = 1; gone <= deep + 1; gone++) {
                int spoke = b.minute();
                due("speaks as long as it is in the throat", spoke, gone <= deep ? 1 : 0);
                due("no more on the table", b.count(6), 0);
                due("goes one PLACE on", b.dish(0, 2), gone < deep ? gone : -2);
                due("is in that PLACE", b.throat(gone), gone < deep ? 0 : -2);
                due("MINUTE is 1 more", b.count(5), gone);
            }
        }
        SpokenBite full = at("dinner 6" + ";dish 9 0".repeat(8));
        minutes(full, 6);
        for (int place = 1; place < 6; place++) {
            due("one behind the other", full.throat(place), 6 - place);
        }
        due("the first is EATEN", full.dish(0, 2), -2);
        due("the second is not", full.dish(1, 2), 5);
    }

    /** "He eats the DISH that is OFFERED (nothing is OFFERED then), else .." */
    private static void eatsTheOffered() {
        SpokenBite b = at("dinner 3;dish 5 0;dish 6 1;dish 7 2");
        Due.ruleOf(b, "eat 0");
        Due.ruleOf(b, "eat loud if loud<7");
        b.offer(1);
        b.minute();
        due("without a RULE", b.dish(1, 2), 1);
        due("nothing is OFFERED then", b.count(9), -1);
        b.force(0);
        b.offer(2);
        b.minute();
        due("though the RULE says none", b.dish(2, 2), 1);
        b.minute();
        due("the next by the RULE again: none", b.count(6), 1);
        SpokenBite c = at("dinner 3;dish 5 0;dish 6 1;dish 7 2");
        Due.ruleOf(c, "eat loud if loud<7");
        c.force(0);
        c.offer(2);
        c.minute();
        due("though the RULE says 1", c.dish(2, 2), 1);
        c.minute();
        due("then 1", c.dish(1, 2), 1);
        SpokenBite d = at("dinner 3;dish 5 0;dish 6 1");
        d.offer(1);
        d.offer(-1);
        d.minute();
        due("none is OFFERED: by the RULE", d.dish(0, 2), 1);
    }

    /** ".. is greatest, if it is above 0, of several the least (none, if none is)". */
    private static void eatsTheGreatest() {
        eaten("eat loud", 2);
        eaten("eat 9-loud", 0);
        eaten("eat loud-6", 2);
        eaten("eat loud-7", 2);
        eaten("eat loud-8", -1);
        eaten("eat 6-loud", 0);
        eaten("eat 5-loud", -1);
        eaten("eat 4-loud", -1);
        eaten("eat 0", -1);
        eaten("eat 1", 0);
        eaten("eat 1 if dish>0", 1);
        eaten("eat 1 if dish>1", 2);
        eaten("eat 1 if dish>3", -1);
        eaten("eat says", 2);
        eaten("eat 1+says%4", 1);
        eaten("eat 2-dish/2", 0);
    }

    private static void eaten(String rule, int want) {
        SpokenBite b = at("dinner 2;dish 5 0;dish 7 3;dish 8 4;dish 8 4");
        due("rule " + rule, Due.ruleOf(b, rule), 0);
        b.force(0);
        b.minute();
        due("eaten by " + rule, b.throat(1), want);
    }

    /** "without a RULE the least". */
    private static void eatsTheLeast() {
        SpokenBite b = at("dinner 1" + ";dish 3 0".repeat(8));
        for (int dish = 0; dish < 8; dish++) {
            due("the least", b.minute(), 1 << dish);
        }
        due("no more", b.minute(), 0);
        b.serve(5);
        b.serve(2);
        due("of those on the table", b.minute(), 4);
        due("then", b.minute(), 32);
    }

    private static void nothingToEat() {
        SpokenBite bare = Twin.bare();
        due("no DISHES", bare.minute(), 0);
        due("a MINUTE all the same", bare.count(5), 1);
        Due.ruleOf(bare, "eat 1");
        bare.force(0);
        due("no DISHES, by a RULE", bare.minute(), 0);
        due("an ACT", bare.count(11), 2);
    }

    /** "How it SOUNDS ..: LOUD less its PLACE. What SOUNDS most (all of these) SPEAKS". */
    private static void soundsByPlace() {
        for (int loud = 0; loud <= 20; loud++) {
            SpokenBite b = at("dinner 6;dish 9 0;dish " + loud + " 1");
            due("alone", b.minute(), 1);
            due("9 less 1 against " + loud, b.minute(), loud < 8 ? 1 : loud == 8 ? 3 : 2);
            if (loud < 9) {
                due("later, both one PLACE on", b.minute(), loud < 8 ? 1 : 3);
            }
        }
        SpokenBite row = at("dinner 6;dish 10 0;dish 9 1;dish 8 2;dish 7 3;dish 6 4;dish 5 5;dish 4 6");
        for (int gone = 0; gone < 6; gone++) {
            due("all of these", row.minute(), (1 << gone + 1) - 1);
        }
        due("the first is EATEN", row.minute(), 126);
        SpokenBite under = at("dinner 6;dish 10 0;dish 8 1;dish 8 2");
        due("10", under.minute(), 1);
        due("9 above 8", under.minute(), 1);
        due("8, 7 and 8: not what is between", under.minute(), 5);
    }

    /** ".. SPEAKS, if that is above 0". */
    private static void aboveZero() {
        SpokenBite one = at("dinner 6;dish 1 0;guest 0");
        due("1", one.minute(), 1);
        due("1 less 1", one.minute(), 0);
        due("below 0", one.minute(), 0);
        SpokenBite zero = at("dinner 6;dish 0 0;guest 0");
        due("0", zero.minute(), 0);
        due("EARS of 0 hear nothing", zero.guest(0, 1), 0);
        due("0 less 1", zero.minute(), 0);
        due("nothing is known", zero.count(8), 0);
        SpokenBite six = at("dinner 6;dish 6 0");
        for (int gone = 0; gone < 6; gone++) {
            due("6 less 5 is above 0", six.minute(), 1);
        }
        SpokenBite five = at("dinner 6;dish 5 0");
        minutes(five, 5);
        due("5 less 5 is not", five.minute(), 0);
    }

    /** "each GUEST who sits, and whose EARS are that or less, KNOWS what it SAYS". */
    private static void earsThatOrLess() {
        SpokenBite b = at("dinner 2;dish 9 7;guest 8;guest 9;guest 10;guest 0;guest 20");
        b.minute();
        int[] knows = {128, 128, 0, 128, 0};
        for (int guest = 0; guest < 5; guest++) {
            due("9 heard by " + guest, b.guest(guest, 1), knows[guest]);
        }
        SpokenBite loudest = at("dinner 1;dish 20 0;guest 20;guest 19");
        loudest.minute();
        due("20 heard by both", loudest.knowing(0), 3);
        SpokenBite place = at("dinner 2;dish 9 7;guest 9;guest 8;clash 0 1");
        for (int guest = 0; guest < 2; guest++) {
            place.tell(guest, 0);
            place.tell(guest, 1);
        }
        place.minute();
        due("9 heard by both, who LEAVE", place.knowing(7), 3);
        place.fetch(0);
        place.fetch(1);
        due("8 in PLACE 1", place.minute(), 1);
        due("heard by EARS of 8 alone", place.knowing(7), 2);
    }

    /** "each GUEST who sits". */
    private static void whoLeftHearsNothing() {
        SpokenBite b = at("dinner 1;dish 9 0;dish 9 1;dish 9 2;guest 0;guest 0;clash 0 1");
        b.tell(0, 1);
        b.minute();
        due("one has LEFT", b.count(7), 2);
        due("with what they KNEW", b.guest(0, 1), 3);
        b.offer(2);
        b.minute();
        due("hears nothing", b.guest(0, 1), 3);
        due("who sits does", b.guest(1, 1), 5);
    }

    /** "What SOUNDS most (all of these) SPEAKS": all that it SAYS is heard, and nothing else. */
    private static void allOfTheseAreHeard() {
        SpokenBite b = at("dinner 3;dish 9 0;dish 8 1;dish 7 2;guest 0;guest 8;guest 7");
        minutes(b, 2);
        due("two at once", b.guest(1, 1), 3);
        due("8 is not heard by none", b.guest(2, 1), 3);
        b.minute();
        due("three at once", b.guest(2, 1), 7);
        due("not by EARS of 8", b.guest(1, 1), 3);
        SpokenBite quieter = at("dinner 3;dish 9 0;dish 7 1;guest 0");
        minutes(quieter, 2);
        due("what is quieter is not heard", quieter.guest(0, 1), 1);
    }

    /** "(3) GUESTS who sit and KNOW two SECRETS that clash LEAVE." */
    private static void leaves() {
        SpokenBite b = at("dinner 1;dish 9 0;dish 9 1;dish 9 7;guest 0;guest 0;clash 0 7");
        b.minute();
        due("one SECRET", b.count(7), 3);
        b.minute();
        due("two that do not clash", b.count(7), 3);
        b.minute();
        due("two that clash: both LEAVE", b.count(7), 0);
        due("they KNOW it still", b.guest(0, 1), 131);
        SpokenBite apart = at("dinner 1;guest 0;guest 0;clash 0 7");
        apart.tell(0, 0);
        apart.tell(1, 7);
        apart.minute();
        due("one each is no clash", apart.count(7), 3);
        SpokenBite every = at("dinner 1" + ";guest 0".repeat(5) + ";clash 0 7");
        for (int guest = 0; guest < 5; guest++) {
            every.tell(guest, 0);
            every.tell(guest, 7);
            every.minute();
            due("GUEST " + guest + " LEAVES alone", every.count(7), 31 & ~((2 << guest) - 1));
        }
    }

    /** In the MINUTE in which they hear it; by two that are said at once, too. */
    private static void leavesAtOnce() {
        SpokenBite b = at("dinner 2;dish 9 0;dish 8 1;guest 9;guest 8;clash 1 0");
        b.minute();
        due("sit", b.count(7), 3);
        b.minute();
        due("9 is not reached, 8 is", b.count(7), 1);
        due("both at once", b.guest(1, 1), 3);
        SpokenBite quiet = at("dinner 1;guest 9;clash 4 5");
        quiet.tell(0, 5);
        quiet.tell(0, 4);
        due("nobody LEAVES by it before the next MINUTE", quiet.count(7), 1);
        due("nor is anything said", quiet.minute(), 0);
        due("in the next MINUTE", quiet.count(7), 0);
    }

    /** "A MINUTE: DISHES that SPEAK in it, as bits". */
    private static void minuteAnswers() {
        SpokenBite b = at("dinner 2;dish 0 0;dish 1 1;dish 1 2;dish 1 3;dish 1 4;dish 1 5;dish 1 6;dish 9 7");
        due("nothing SPEAKS", b.minute(), 0);
        for (int dish = 1; dish < 8; dish++) {
            due("one SPEAKS", b.minute(), 1 << dish);
        }
        due("the last again", b.minute(), 128);
        due("and no more", b.minute(), 0);
    }

    /** "NONE, and nothing happens, without a DINNER". */
    private static void minuteRefused() {
        refused("minute without a DINNER", SpokenBite::new, SpokenBite::minute, -1);
        Twin.Setup rules = () -> {
            SpokenBite b = new SpokenBite();
            Due.ruleOf(b, "eat 1");
            b.force(0);
            return b;
        };
        refused("minute with a RULE alone", rules, SpokenBite::minute, -1);
    }

    /** "MINUTE is 1 more (999 at most by hand; MINUTES that are asked go on beyond)." Behind the 512 calls that are promised. */
    private static void lastMinute() {
        SpokenBite b = at("dinner 1;dish 5 5;guest 0");
        minutes(b, 998);
        due("998", b.count(5), 998);
        due("one more", b.minute(), 0);
        due("999", b.count(5), 999);
        b.serve(0);
        int acts = b.count(11);
        due("in MINUTE 999", b.minute(), -1);
        due("nothing happens: MINUTE", b.count(5), 999);
        due("nothing happens: the table", b.count(6), 1);
        due("nothing happens: ACTS", b.count(11), acts);
        due("asked ones go on", b.said(5), 999);
        due("beyond", b.ahead(0, 1, 2), 0);
        Due.ruleOf(b, "eat 1 if minute=1098");
        b.force(0);
        due("to the hundredth", b.said(5), 1098);
        due("of these the loudest", b.loudest(100, 1), 1098);
        due("not in 99", b.loudest(99, 1), -2);
        due("other ACTS are still there", b.offer(0), -1);
        due("an IMAGE of it", b.image(0), 999);
    }

    /** "OFFER (NONE: none): which was (NONE: none)"; "(a DISH on the table, another one than is, or none, if one is)". */
    private static void offer() {
        SpokenBite b = at("dinner 3" + ";dish 5 0".repeat(8));
        due("the first one", b.offer(0), -1);
        due("the last one", b.offer(7), 0);
        due("OFFERED", b.count(9), 7);
        due("another one", b.offer(3), 7);
        due("none", b.offer(-1), 3);
        due("nothing is OFFERED", b.count(9), -1);
        due("all are on the table", b.count(6), 255);
        due("each an ACT", b.count(11), 4);
        due("and again", b.offer(0), -1);
    }

    /** "-2, and nothing happens, without these, or a DINNER." */
    private static void offerRefused() {
        // OFFERED is 4; 0 is EATEN, 1 and 2 are in the throat
        for (int dish : new int[] {4, 0, 1, 2, 5, 7, 8, -2, LEAST, MOST}) {
            refused("offer " + dish, Twin::rich, b -> b.offer(dish), -2);
        }
        due("offer 3", Twin.rich().offer(3), 4);
        due("offer none", Twin.rich().offer(-1), 4);
        Twin.Setup none = () -> {
            SpokenBite b = Twin.rich();
            b.offer(-1);
            return b;
        };
        refused("offer none, if none is", none, b -> b.offer(-1), -2);
        refused("offer 0 without a DINNER", SpokenBite::new, b -> b.offer(0), -2);
        refused("offer none without a DINNER", SpokenBite::new, b -> b.offer(-1), -2);
        refused("offer 0 without DISHES", Twin::bare, b -> b.offer(0), -2);
        refused("offer none without DISHES", Twin::bare, b -> b.offer(-1), -2);
    }

    /** "SERVE (a DISH that is EATEN is on the table again)": "DISHES on the table then, as bits". */
    private static void serve() {
        SpokenBite b = at("dinner 1" + ";dish 5 0".repeat(8));
        minutes(b, 8);
        due("the last", b.serve(7), 128);
        due("the first", b.serve(0), 129);
        due("one between", b.serve(4), 145);
        due("on the table", b.dish(4, 2), -1);
        due("ACTS", b.count(11), 11);
        due("is eaten again", b.minute(), 1);
        due("and can be served again", b.serve(0), 145);
        due("and OFFERED", b.offer(7), -1);
    }

    /** "NONE, and nothing happens, without these." */
    private static void serveRefused() {
        for (int dish : new int[] {1, 2, 3, 4, 5, 7, 8, -1, -2, LEAST, MOST}) {
            refused("serve " + dish, Twin::rich, b -> b.serve(dish), -1);
        }
        due("serve 0", Twin.rich().serve(0), 25);
        for (int gone = 0; gone <= 6; gone++) {
            SpokenBite b = at("dinner 6;dish 5 0");
            minutes(b, gone);
            due("behind " + gone + " MINUTES", b.serve(0), gone < 6 ? -1 : 1);
        }
        refused("serve 0 without a DINNER", SpokenBite::new, b -> b.serve(0), -1);
        refused("serve 0 without DISHES", Twin::bare, b -> b.serve(0), -1);
    }

    /** "FETCH (a GUEST who has LEFT sits again, and KNOWS nothing)": "what they KNEW, as bits". */
    private static void fetch() {
        SpokenBite b = at("dinner 1" + ";guest 0".repeat(5) + ";clash 6 7");
        for (int guest : new int[] {0, 4}) {
            b.tell(guest, 6);
            b.tell(guest, 7);
            b.tell(guest, guest);
            b.tell(2, guest);
        }
        b.minute();
        due("who LEFT", b.count(7), 14);
        due("the last", b.fetch(4), 192 + 16);
        due("sits again", b.count(7), 30);
        due("KNOWS nothing", b.guest(4, 1), 0);
        due("others KNOW what they KNEW", b.guest(2, 1), 17);
        due("the first", b.fetch(0), 193);
        due("all sit", b.count(7), 31);
        b.minute();
        due("and stay", b.count(7), 31);
        due("ACTS", b.count(11), 12);
        for (int guest = 0; guest < 5; guest++) {
            SpokenBite all = at("dinner 1" + ";guest 0".repeat(5) + ";clash 6 7");
            for (int secret = 0; secret < 8; secret++) {
                all.tell(guest, secret);
                all.tell((guest + 1) % 5, secret % 6);
            }
            all.minute();
            due("KNEW all", all.fetch(guest), 255);
            due("KNOWS nothing", all.guest(guest, 1), 0);
            due("the other one KNOWS as before", all.count(8), 6);
        }
    }

    private static void fetchRefused() {
        for (int guest : new int[] {1, 3, 4, 5, -1, LEAST, MOST}) {
            refused("fetch " + guest, Twin::rich, b -> b.fetch(guest), -1);
        }
        due("fetch 0", Twin.rich().fetch(0), 3);
        due("fetch 2", Twin.rich().fetch(2), 3);
        refused("fetch 0 without a DINNER", SpokenBite::new, b -> b.fetch(0), -1);
        refused("fetch 0 without GUESTS", Twin::bare, b -> b.fetch(0), -1);
        Twin.Setup twice = () -> {
            SpokenBite b = Twin.rich();
            b.fetch(0);
            return b;
        };
        refused("fetch who was fetched", twice, b -> b.fetch(0), -1);
    }

    /** "TELL (a GUEST who sits KNOWS a SECRET more ..)": "what they KNOW then, as bits". */
    private static void tell() {
        SpokenBite b = at("dinner 1" + ";guest 0".repeat(5));
        int[] order = {0, 7, 3, 1, 2, 4, 5, 6};
        int knows = 0;
        for (int secret : order) {
            knows |= 1 << secret;
            due("the last GUEST", b.tell(4, secret), knows);
        }
        due("the first GUEST", b.tell(0, 7), 128);
        due("nobody else", b.count(8), 9);
        due("ACTS", b.count(11), 9);
        for (int secret = 0; secret < 8; secret++) {
            due("all are known", b.tell(4, secret), -1);
        }
    }

    /** "NONE, and nothing happens, without these (one they did not KNOW)." */
    private static void tellRefused() {
        int[][] twos = {{1, 1}, {1, 7}, {0, 2}, {2, 2}, {0, 0}, {3, 0}, {4, 0}, {5, 0}, {-1, 0}, {1, 8}, {1, -1}, {1, LEAST}, {1, MOST},
            {LEAST, 0}, {MOST, 0}, {LEAST, MOST}, {1, 32}, {1, 33}};
        for (int[] two : twos) {
            refused("tell " + two[0] + " of " + two[1], Twin::rich, b -> b.tell(two[0], two[1]), -1);
        }
        due("tell 1 of 0", Twin.rich().tell(1, 0), 131);
        due("tell 1 of 6", Twin.rich().tell(1, 6), 194);
        refused("tell without a DINNER", SpokenBite::new, b -> b.tell(0, 0), -1);
        refused("tell without GUESTS", Twin::bare, b -> b.tell(0, 0), -1);
    }

    /** "The last ACT is UNDONE: how many more can be": each kind of them, and all is as it was. */
    private static void eachActIsUndone() {
        refused("minute, undone", Twin::rich, b -> undone(b, b.minute()), 5);
        refused("offer, undone", Twin::rich, b -> undone(b, b.offer(3)), 5);
        refused("offer none, undone", Twin::rich, b -> undone(b, b.offer(-1)), 5);
        refused("serve, undone", Twin::rich, b -> undone(b, b.serve(0)), 5);
        refused("fetch, undone", Twin::rich, b -> undone(b, b.fetch(2)), 5);
        refused("tell, undone", Twin::rich, b -> undone(b, b.tell(1, 6)), 5);
        refused("six, undone", Twin::rich, ActEdgeTest::sixUndone, 5);
    }

    private static int sixUndone(SpokenBite b) {
        b.minute();
        b.serve(0);
        b.offer(0);
        b.fetch(0);
        b.tell(0, 3);
        b.minute();
        int more = 0;
        for (int i = 0; i < 6; i++) {
            more = b.undo();
        }
        return more;
    }

    private static int undone(SpokenBite b, int answer) {
        due("it was an ACT", answer >= -1 ? 1 : 0, 1);
        due("one more", b.count(11), 6);
        return b.undo();
    }

    /** "The last 20 can be UNDONE, the last first." */
    private static void undoLastFirst() {
        SpokenBite b = at("dinner 2;dish 5 0;dish 6 1;guest 0;clash 0 1");
        b.offer(1);
        b.minute();
        b.tell(0, 0);
        b.minute();
        due("LEFT", b.count(7), 0);
        b.fetch(0);
        b.minute();
        b.serve(1);
        due("ACTS", b.count(11), 7);
        due("serve", b.undo(), 6);
        due("EATEN", b.dish(1, 2), -2);
        due("minute", b.undo(), 5);
        due("MINUTE 2", b.count(5), 2);
        due("fetch", b.undo(), 4);
        due("LEFT again", b.count(7), 0);
        due("and KNOWS again", b.guest(0, 1), 3);
        due("minute", b.undo(), 3);
        due("sits", b.count(7), 1);
        due("on the table again", b.count(6), 1);
        due("in its PLACE again", b.dish(1, 2), 1);
        due("tell", b.undo(), 2);
        due("KNOWS one", b.guest(0, 1), 2);
        due("minute", b.undo(), 1);
        due("OFFERED again", b.count(9), 1);
        due("offer", b.undo(), 0);
        due("nothing OFFERED", b.count(9), -1);
        due("no more", b.undo(), -1);
    }

    /** 19, 20, 21 and many: no more than 20 can be UNDONE. */
    private static void undoTwenty() {
        for (int acts : new int[] {1, 19, 20, 21, 22, 40, 41, 45}) {
            SpokenBite b = at("dinner 1;dish 5 0");
            minutes(b, acts);
            int can = Math.min(acts, 20);
            due("ACTS that can be UNDONE", b.count(11), can);
            for (int i = 1; i <= can; i++) {
                due("how many more", b.undo(), can - i);
                due("the last first", b.count(5), acts - i);
            }
            due("none can", b.undo(), -1);
            due("nothing happens", b.count(5), acts - can);
        }
    }

    /** "NONE, and nothing happens: none can." */
    private static void undoRefused() {
        refused("undo without a DINNER", SpokenBite::new, SpokenBite::undo, -1);
        refused("undo without ACTS", Twin::bare, SpokenBite::undo, -1);
        Twin.Setup back = () -> {
            SpokenBite b = Twin.rich();
            b.back(2);
            return b;
        };
        refused("undo behind back", back, SpokenBite::undo, -1);
    }

    /** Neither the RULES nor x, NOTES, TAPE or IMAGES are of an ACT. */
    private static void undoLeavesTheRest() {
        SpokenBite b = Twin.rich();
        b.minute();
        b.rule();
        b.force(3);
        b.seed(9);
        b.note(5, 1, 1, 0);
        b.feed(0, 0, 0, 0, 0);
        b.image(1);
        due("undo", b.undo(), 5);
        due("RULES", b.count(3), 4);
        due("IN FORCE", b.count(4), 3);
        due("NOTES", b.count(10), 3);
        due("x", b.count(12), 9);
        due("TAPE", b.count(13), 20);
        due("MINUTE", b.count(5), 3);
        due("the IMAGE", b.back(1), 4);
    }

    private static void undoneAndDoneAgain() {
        SpokenBite b = at("dinner 1;dish 5 0;guest 9");
        for (int i = 0; i < 30; i++) {
            b.minute();
            b.minute();
            due("undo", b.undo(), Math.min(i + 1, 19));
            due("MINUTE", b.count(5), i + 1);
        }
        due("nineteen stay", b.count(11), 19);
        for (int left = 18; left >= 0; left--) {
            due("undo", b.undo(), left);
        }
        due("MINUTE 11", b.count(5), 11);
        due("no more", b.undo(), -1);
    }
}
