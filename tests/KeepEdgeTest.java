/** count, IMAGES and what is gone back to, promises 35 to 37, sentence by sentence: each limit on both sides. */
final class KeepEdgeTest {
    private static final Due DUE = new Due();
    private static final int LEAST = Integer.MIN_VALUE;
    private static final int MOST = Integer.MAX_VALUE;

    public static void main(String[] args) {
        countOfEach();
        countAtItsMost();
        countRefused();
        imageLimits();
        imageRefused();
        imageIsNoAct();
        backRefused();
        backBringsAll();
        backBringsEachNote();
        theseStay();
        nothingCanBeUndone();
        madeAnew();
        imagesOfNoDinner();
        DUE.close();
    }

    private static void due(String call, long got, long want) {
        DUE.due(call, got, want);
    }

    private static void counts(SpokenBite b, String when, int... wanted) {
        for (int what = 0; what < wanted.length; what++) {
            due(when + ": count " + what, b.count(what), wanted[what]);
        }
    }

    /** "What 0: DEEP, 1: DISHES, .. 13: bytes of the TAPE". */
    private static void countOfEach() {
        counts(Twin.rich(), "in the midst", 3, 5, 3, 3, 1, 3, 24, 2, 6, 4, 2, 5, 4711, 10);
        counts(Twin.bare(), "a bare DINNER", 2, 0, 0, 0, -1, 0, 0, 0, 0, -1, 0, 0, 0, 0);
        counts(new SpokenBite(), "a new object", 0, 0, 0, 0, -1, 0, 0, 0, 0, -1, 0, 0, 0, 0);
    }

    /** Each at the most that the document lets it be. */
    private static void countAtItsMost() {
        SpokenBite b = new SpokenBite();
        Due.dinnerOf(b, "dinner 6" + ";dish 20 7".repeat(8) + ";guest 20".repeat(5));
        for (int rule = 0; rule < 6; rule++) {
            Due.ruleOf(b, "eat 0");
        }
        b.force(5);
        for (int i = 0; i < 40; i++) {
            b.tell(i / 8, i % 8);
        }
        b.offer(7);
        for (int i = 0; i < 10; i++) {
            b.note(60, 4, 7, 1);
        }
        b.seed(MOST);
        Due.feedText(b, " ".repeat(400));
        counts(b, "at its most", 6, 8, 5, 6, 5, 0, 255, 31, 40, 7, 10, 20, MOST, 400);
        b.force(0);
        b.offer(0);
        due("the first RULE", b.count(4), 0);
        due("the first DISH", b.count(9), 0);
    }

    /** "NONE for others; 9 NONE without a DINNER." */
    private static void countRefused() {
        for (int what : new int[] {-1, 14, 15, LEAST, MOST}) {
            due("count " + what, Twin.rich().count(what), -1);
            due("count " + what + " without a DINNER", new SpokenBite().count(what), -1);
        }
        Twin.changesNothing(DUE, "count 14", Twin::rich, b -> b.count(14), -1);
        Twin.changesNothing(DUE, "count 5", Twin::rich, b -> b.count(5), 3);
        SpokenBite none = new SpokenBite();
        none.image(0);
        Due.dinnerOf(none, "dinner 1;dish 1 1");
        none.offer(0);
        due("9 with one", none.count(9), 0);
        none.back(0);
        due("9 without a DINNER", none.count(9), -1);
    }

    /** "IMAGES 0 to 3"; "An IMAGE is made: MINUTE". */
    private static void imageLimits() {
        SpokenBite b = Twin.rich();
        for (int k = 0; k < 4; k++) {
            due("IMAGE " + k, b.image(k), 3 + k);
            b.minute();
        }
        for (int k = 3; k >= 0; k--) {
            due("back to " + k, b.back(k), 3 + k);
            due("MINUTE", b.count(5), 3 + k);
        }
    }

    /** "NONE without it." */
    private static void imageRefused() {
        for (int k : new int[] {-1, 4, 5, LEAST, MOST}) {
            Twin.changesNothing(DUE, "image " + k, Twin::rich, b -> b.image(k), -1);
            Twin.changesNothing(DUE, "image " + k, SpokenBite::new, b -> b.image(k), -1);
        }
    }

    /** By an IMAGE nothing else changes. */
    private static void imageIsNoAct() {
        SpokenBite b = Twin.rich();
        due("image", b.image(3), 3);
        counts(b, "the same", 3, 5, 3, 3, 1, 3, 24, 2, 6, 4, 2, 5, 4711, 10);
        due("undo", b.undo(), 4);
        due("the IMAGE is as it was", b.back(3), 3);
        due("OFFERED", b.count(9), 4);
    }

    /** "NONE, and nothing happens, if it was never made, or without it." */
    private static void backRefused() {
        for (int k : new int[] {1, 3, -1, 4, 5, LEAST, MOST}) {
            Twin.changesNothing(DUE, "back " + k, Twin::rich, b -> b.back(k), -1);
        }
        for (int k : new int[] {0, 1, 2, 3, -1, 4}) {
            Twin.changesNothing(DUE, "back " + k, SpokenBite::new, b -> b.back(k), -1);
        }
    }

    /** "All is as in an IMAGE: MINUTE"; "all but the TAPE and the RULES, as it is (the RULE IN FORCE, too)". */
    private static void backBringsAll() {
        SpokenBite b = Twin.rich();
        b.image(1);
        b.minute();
        b.fetch(0);
        b.serve(0);
        b.tell(1, 4);
        b.force(2);
        b.seed(8);
        b.note(-1, 0, 0, 0);
        b.note(60, 2, 7, 1);
        Due.dinnerOf(b, "dinner 6;dish 1 7;guest 19;clash 3 4;clash 0 2");
        b.minute();
        due("back: MINUTE", b.back(1), 3);
        counts(b, "all but the TAPE", 3, 5, 3, 3, 1, 3, 24, 2, 6, 4, 2, 0, 4711, 0);
        int[][] dishes = {{5, 0, -2}, {9, 1, 2}, {7, 2, 1}, {3, 3, -1}, {6, 4, -1}};
        int[][] guests = {{4, 3, 0}, {8, 130, 1}, {2, 3, 0}};
        int[] clashes = {2, 1, 0, 0, 0, 64, 32, 0};
        for (int i = 0; i < 8; i++) {
            for (int what = 0; what < 3; what++) {
                due("dish " + i, b.dish(i, what), i < 5 ? dishes[i][what] : -3);
                due("guest " + i, b.guest(i, what), i < 3 ? guests[i][what] : -1);
            }
            due("clashes " + i, b.clashes(i), clashes[i]);
        }
        due("throat 0", b.throat(0), -1);
        due("throat 1", b.throat(1), 2);
        due("throat 2", b.throat(2), 1);
        due("throat 3", b.throat(3), -2);
        due("the NOTES", b.ruled(0), 2);
        due("the first", b.ruled(1), -1);
        due("DISH 1 sounds 7 in PLACE 2, the others 6", b.minute(), 2);
        due("what was OFFERED is eaten", b.dish(4, 2), 1);
    }

    /** All of a NOTE: which MINUTE, who, what, and whether they KNEW it. */
    private static void backBringsEachNote() {
        // DISH 1 is heard in MINUTE 1 by GUEST 1 alone
        int[][] notes = {{1, 1, 3, 0}, {2, 1, 3, 1}, {60, 0, 3, 0}, {60, 1, 4, 0}, {60, 1, 3, 1}};
        int[][] others = {{2, 1, 3, 0}, {1, 1, 3, 1}, {60, 1, 3, 0}, {60, 1, 3, 0}, {60, 1, 3, 0}};
        for (int i = 0; i < notes.length; i++) {
            for (int bad = 0; bad < 2; bad++) {
                SpokenBite b = new SpokenBite();
                Due.dinnerOf(b, "dinner 1;dish 0 0;dish 5 3;guest 6;guest 5");
                int[] kept = bad == 0 ? notes[i] : others[i];
                int[] other = bad == 0 ? others[i] : notes[i];
                b.note(kept[0], kept[1], kept[2], kept[3]);
                due("as noted", b.ruled(0), 1 - bad);
                b.image(2);
                b.note(-1, 0, 0, 0);
                b.note(other[0], other[1], other[2], other[3]);
                due("as noted then", b.ruled(0), bad);
                b.back(2);
                due("as noted first", b.ruled(0), 1 - bad);
                due("one NOTE", b.count(10), 1);
            }
        }
    }

    /** "(these stay ..)": the TAPE, the RULES and the IMAGES. */
    private static void theseStay() {
        SpokenBite b = Twin.rich();
        b.rule();
        Due.feedText(b, "eat 7");
        due("back", b.back(2), 3);
        due("RULES stay", b.count(3), 4);
        due("the TAPE stays", b.count(13), 5);
        due("and is read", b.rule(), 4);
        due("a later RULE can be IN FORCE", b.force(3), 1);
        due("back to another IMAGE", b.back(0), 0);
        due("none was IN FORCE", b.count(4), -1);
        due("no NOTES were", b.count(10), 0);
        due("x was 0", b.count(12), 0);
        due("back to it again", b.back(2), 3);
        due("IN FORCE", b.count(4), 1);
        b.minute();
        due("and again", b.back(2), 3);
        due("as it was", b.count(6), 24);
    }

    /** "nothing can be UNDONE then". */
    private static void nothingCanBeUndone() {
        SpokenBite b = Twin.rich();
        due("ACTS", b.count(11), 5);
        b.back(2);
        due("none", b.count(11), 0);
        due("none can", b.undo(), -1);
        b.minute();
        due("but what is done then", b.undo(), 0);
        due("MINUTE", b.count(5), 3);
        due("no further", b.undo(), -1);
        due("still as in the IMAGE", b.count(5), 3);
    }

    /** An IMAGE that there is, is made anew. */
    private static void madeAnew() {
        SpokenBite b = Twin.rich();
        due("in place of the one there was", b.image(0), 3);
        due("back to the other", b.back(2), 3);
        due("back to it", b.back(0), 3);
        due("OFFERED", b.count(9), 4);
        due("the other is as it was", b.back(2), 3);
        due("nothing was OFFERED", b.count(9), -1);
    }

    /** An IMAGE without a DINNER is of none. */
    private static void imagesOfNoDinner() {
        SpokenBite b = new SpokenBite();
        due("MINUTE 0", b.image(3), 0);
        Due.dinnerOf(b, "dinner 1;dish 5 5;guest 0;clash 1 2");
        b.minute();
        due("back", b.back(3), 0);
        counts(b, "no DINNER", 0, 0, 0, 0, -1, 0, 0, 0, 0, -1, 0, 0, 0, 0);
        due("minute", b.minute(), -1);
        due("clashes", b.clashes(1), -1);
        due("quiet", b.quiet(), -1);
        due("offer", b.offer(-1), -2);
    }
}
