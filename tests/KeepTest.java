/** Promises 35 to 37: count, image, back. */
final class KeepTest {
    private static final Due DUE = new Due();
    private static final String PLAIN = "dinner 3;dish 5 0;dish 9 1;dish 7 2;guest 4;guest 8;clash 0 1";

    public static void main(String[] args) {
        count();
        image();
        notes();
        ofNoDinner();
        DUE.close();
    }

    private static void due(String call, long got, long want) {
        DUE.due(call, got, want);
    }

    private static void counts(SpokenBite b, String when, int... wanted) {
        for (int what = 0; what < wanted.length; what++) {
            due(when + ": count " + what, b.count(what), wanted[what]);
        }
    }

    private static void count() {
        SpokenBite b = new SpokenBite();
        Due.dinnerOf(b, PLAIN);
        Due.ruleOf(b, "eat 1");
        Due.ruleOf(b, "eat 2");
        b.force(1);
        b.seed(99);
        b.minute();
        b.minute();
        b.offer(2);
        b.note(1, 1, 1, 1);
        Due.feedText(b, "abc");
        counts(b, "in the midst", 3, 3, 2, 2, 1, 2, 4, 2, 3, 2, 1, 3, 99, 3);
        due("count 14", b.count(14), -1);
        due("count -1", b.count(-1), -1);
    }

    private static void image() {
        SpokenBite b = new SpokenBite();
        due("never made", b.back(0), -1);
        due("image 4", b.image(4), -1);
        due("image -1", b.image(-1), -1);
        due("back 4", b.back(4), -1);
        due("back -1", b.back(-1), -1);
        Due.dinnerOf(b, PLAIN);
        Due.ruleOf(b, "eat 1");
        b.force(0);
        b.seed(99);
        b.minute();
        b.offer(2);
        b.note(1, 1, 1, 1);
        due("image 3", b.image(3), 1);
        due("still undoable", b.count(11), 2);
        b.minute();
        b.tell(1, 7);
        due("image 0", b.image(0), 2);
        Due.ruleOf(b, "eat 3");
        b.force(1);
        b.seed(1);
        b.note(-1, 0, 0, 0);
        Due.dinnerOf(b, "dinner 6;dish 1 1;guest 0;clash 3 4");
        Due.feedText(b, "abc");
        due("back 2", b.back(2), -1);
        due("nothing happens", b.count(0), 6);
        due("back 3", b.back(3), 1);
        counts(b, "back", 3, 3, 2, 2, 0, 1, 6, 3, 1, 2, 1, 0, 99, 3);
        due("clashes", b.clashes(0), 2);
        due("clashes", b.clashes(3), 0);
        due("loud", b.dish(1, 0), 9);
        due("ears", b.guest(1, 0), 8);
        due("throat", b.throat(1), 0);
        due("knows", b.guest(0, 1), 1);
        due("nothing can be undone", b.undo(), -1);
        b.minute();
        due("the other one stays", b.back(0), 2);
        due("told", b.guest(1, 1), 128);
        due("it stays too", b.back(3), 1);
        due("as it was", b.guest(1, 1), 0);
        due("made anew", b.image(0), 1);
        due("is as made", b.back(0), 1);
        due("the rule in force", b.count(4), 0);
        due("the note", b.ruled(0), 0);
    }

    private static void notes() {
        SpokenBite b = new SpokenBite();
        Due.dinnerOf(b, PLAIN);
        b.note(1, 0, 0, 1);
        due("so without a rule", b.ruled(0), 1);
        b.image(2);
        b.note(-1, 0, 0, 0);
        b.note(0, 1, 1, 0);
        b.note(0, 1, 1, 1);
        due("not so", b.ruled(0), 0);
        b.back(2);
        due("all of the note is back", b.ruled(0), 1);
        due("one note", b.count(10), 1);
    }

    private static void ofNoDinner() {
        SpokenBite b = new SpokenBite();
        due("image", b.image(1), 0);
        Due.dinnerOf(b, PLAIN);
        b.minute();
        due("back", b.back(1), 0);
        counts(b, "no dinner", 0, 0, 0, 0, -1, 0, 0, 0, 0, -1, 0, 0, 0, 0);
        due("minute", b.minute(), -1);
        due("dish", b.dish(0, 0), -3);
    }
}
