import java.util.List;

/**
 * Looks whether a call changes anything: two objects are made alike, one of them is asked, and then both are looked at
 * by other calls, in several ways (each on objects of its own, as looking at what can be UNDONE undoes it).
 */
final class Twin {
    /** Makes an object and brings it to where it is asked. */
    interface Setup {
        SpokenBite make();
    }

    interface Call {
        int on(SpokenBite b);
    }

    private interface Look {
        void at(SpokenBite b, StringBuilder seen);
    }

    static final String RICH_TEXT =
        "dinner 3;dish 5 0;dish 9 1;dish 7 2;dish 3 3;dish 6 4;guest 4;guest 8;guest 2;clash 0 1;clash 5 6";

    private static final List<Look> LOOKS =
        List.of(Twin::all, Twin::asked, Twin::past, Twin::images, Twin::tape, Twin::rules);

    private Twin() { }

    /** Refused: answers what is due, and nothing happens. An asking call is looked at the same way. */
    static void changesNothing(Due due, String name, Setup setup, Call call, int want) {
        for (Look look : LOOKS) {
            SpokenBite asked = setup.make();
            SpokenBite alone = setup.make();
            due.due(name, call.on(asked), want);
            StringBuilder seen = new StringBuilder();
            StringBuilder other = new StringBuilder();
            look.at(asked, seen);
            look.at(alone, other);
            due.due(name + ": nothing happens (" + seen + " in place of " + other + ")", seen.compareTo(other), 0);
        }
    }

    /**
     * A dinner in the midst, with something of all that there is: MINUTE 3, DISH 0 EATEN, 1 and 2 in the throat, 3 and 4
     * on the table, 4 OFFERED, GUESTS 0 and 2 have LEFT, three RULES, the second IN FORCE, two NOTES, five ACTS, x 4711,
     * IMAGES 0 and 2, and a RULE's text on the TAPE.
     */
    static SpokenBite rich() {
        SpokenBite b = new SpokenBite();
        Due.dinnerOf(b, RICH_TEXT);
        Due.ruleOf(b, "eat 1+dish");
        Due.ruleOf(b, "eat 10-dish if minute<50");
        Due.ruleOf(b, "eat loud");
        b.image(0);
        b.force(1);
        b.seed(4711);
        b.note(1, 0, 0, 1);
        b.note(2, 1, 1, 1);
        b.minute();
        b.minute();
        b.minute();
        b.tell(1, 7);
        b.image(2);
        b.offer(4);
        Due.feedText(b, "eat 3-dish");
        return b;
    }

    /** A DINNER without DISHES or GUESTS. */
    static SpokenBite bare() {
        SpokenBite b = new SpokenBite();
        Due.dinnerOf(b, "dinner 2");
        return b;
    }

    static void counts(SpokenBite b, StringBuilder seen) {
        for (int what = 0; what <= 13; what++) {
            seen.append(b.count(what)).append(' ');
        }
    }

    private static void all(SpokenBite b, StringBuilder seen) {
        counts(b, seen);
        for (int i = 0; i < 8; i++) {
            for (int what = 0; what <= 2; what++) {
                seen.append(b.dish(i, what)).append(' ').append(b.guest(i, what)).append(' ');
            }
            seen.append(b.clashes(i)).append(' ').append(b.knowing(i)).append(' ').append(b.throat(i)).append(' ');
        }
        noted(b, seen);
    }

    /** What is asked starts from how it is, so that it differs if that does. */
    private static void asked(SpokenBite b, StringBuilder seen) {
        for (int n = 0; n <= 12; n++) {
            seen.append(b.ahead(0, n, 1)).append(' ').append(b.ahead(1, n, 0)).append(' ').append(b.loudest(n, 0)).append(' ');
            seen.append(b.rests(0, 1, n, 0)).append(' ').append(b.leftOut(n, 2)).append(' ').append(b.crumbs(n, 1)).append(' ');
            seen.append(b.bestRow(4, n)).append(' ').append(b.hush(4, n)).append(' ').append(b.said(n)).append(' ');
            seen.append(b.hiccups(2, n, 50, 1)).append(' ').append(b.look(n, 0)).append(' ').append(b.believed(n)).append(' ');
        }
        seen.append(b.quiet()).append(' ').append(b.dropped(0)).append(' ');
    }

    /** NOTES can be seen by what fits them alone. */
    private static void noted(SpokenBite b, StringBuilder seen) {
        seen.append(b.ruled(0)).append(' ').append(b.ruled(1)).append(' ').append(b.look(60, 1)).append(' ');
        for (int what = 0; what <= 4; what++) {
            seen.append(b.rows(what)).append(' ');
        }
    }

    private static void past(SpokenBite b, StringBuilder seen) {
        for (int i = 0; i <= 20; i++) {
            seen.append(b.undo()).append(' ');
            for (int what = 4; what <= 9; what++) {
                seen.append(b.count(what)).append(' ');
            }
            for (int i8 = 0; i8 < 8; i8++) {
                seen.append(b.dish(i8, 2)).append(' ');
            }
        }
    }

    private static void images(SpokenBite b, StringBuilder seen) {
        for (int k = 0; k <= 3; k++) {
            seen.append(b.back(k)).append(' ');
            counts(b, seen);
            for (int i = 0; i < 8; i++) {
                seen.append(b.dish(i, 0)).append(' ').append(b.dish(i, 2)).append(' ').append(b.guest(i, 1)).append(' ');
            }
            noted(b, seen);
        }
    }

    /** What the TAPE's bytes are is seen by reading them; a byte more makes it longer. */
    private static void tape(SpokenBite b, StringBuilder seen) {
        seen.append(b.feed(0x2b312b31, 0x2b312b31, 0x2b312b31, 0x2b312b31, 0x2b312b31)).append(' ');
        seen.append(b.dinner()).append(' ').append(b.rule()).append(' ');
        seen.append(b.force(b.count(3) - 1)).append(' ');
        for (int n = 0; n < 4; n++) {
            seen.append(b.ahead(0, n, 2)).append(' ');
        }
    }

    private static void rules(SpokenBite b, StringBuilder seen) {
        for (int rule = 0; rule < 6; rule++) {
            seen.append(b.force(rule)).append(' ');
            for (int n = 0; n < 9; n++) {
                seen.append(b.ahead(0, n, 2)).append(' ');
            }
        }
    }
}
