/**
 * Runs of 512 calls on one object, "at most 512 calls after it has been made", worked out by hand: each call's answer, and
 * what other calls show afterwards. What can fill up, be used up or wear off in so many calls is asked here.
 */
final class LongRunTest {
    private static final Due DUE = new Due();
    private static final int PROMISED = 512;

    private final String name;
    private final SpokenBite b = new SpokenBite();
    private int calls = 0;

    private LongRunTest(String name) {
        this.name = name;
    }

    public static void main(String[] args) {
        tapeOverAndOver();
        dinnersOverAndOver();
        faultsOverAndOver();
        rulesAndTheirTape();
        forceToAndFro();
        minutesAndServing();
        minutesToTheLast();
        offersAndUndo();
        fetchedAndTold();
        notesOverAndOver();
        seedsAndHiccups();
        imagesOverAndOver();
        imageKeptThroughout();
        askedOverAndOver();
        refusedOverAndOver();
        theLastCallOfEach();
        DUE.close();
    }

    /** One call, with the answer that is due. */
    private void due(String call, int got, int want) {
        calls++;
        DUE.due(name + ", call " + calls + ": " + call, got, want);
    }

    private boolean hasLeft(int many) {
        return calls + many <= PROMISED;
    }

    /** The rest of the run, by a call that changes nothing. */
    private void fill() {
        for (int i = calls; i < PROMISED; i++) {
            due("count 14", b.count(14), -1);
        }
        ended();
    }

    private void ended() {
        DUE.due(name + ": calls", calls, PROMISED);
    }

    private void feed(String text, int before) {
        byte[] bytes = text.getBytes(java.nio.charset.StandardCharsets.ISO_8859_1);
        for (int at = 0; at < bytes.length; at += 20) {
            int fed = b.feed(Due.wordOf(bytes, at), Due.wordOf(bytes, at + 4), Due.wordOf(bytes, at + 8),
                Due.wordOf(bytes, at + 12), Due.wordOf(bytes, at + 16));
            due("feed", fed, before + at + 20);
        }
        due("end", b.end(before + bytes.length), before + bytes.length);
    }

    private void dinner(String text, int dishes) {
        feed(text, 0);
        due("dinner", b.dinner(), dishes);
    }

    private void rule(String text, int number) {
        feed(text, 0);
        due("rule", b.rule(), number);
    }

    /** Promises 2 and 3: full, refused, and cut, over and over. */
    private static void tapeOverAndOver() {
        LongRunTest run = new LongRunTest("tape");
        for (int round = 0; run.hasLeft(25); round++) {
            for (int fed = 20; fed <= 400; fed += 20) {
                run.due("feed", run.b.feed(round, -1, 0, 1, round), fed);
            }
            run.due("no more than 400", run.b.feed(0, 0, 0, 0, 0), -1);
            run.due("end 401", run.b.end(401), -1);
            run.due("bytes", run.b.count(13), 400);
            run.due("end", run.b.end(380 - round), 380 - round);
            run.due("end 0", run.b.end(0), 0);
        }
        run.fill();
    }

    /** Promise 4: each DINNER is in place of the one there was; the TAPE is empty each time. */
    private static void dinnersOverAndOver() {
        LongRunTest run = new LongRunTest("dinners");
        for (int i = 0; run.hasLeft(9); i++) {
            int deep = 1 + i % 6;
            int loud = i % 21;
            run.dinner("dinner " + deep + ";dish " + loud + " 3", 1);
            run.due("the TAPE is empty", run.b.count(13), 0);
            run.due("DEEP", run.b.count(0), deep);
            run.due("minute", run.b.minute(), loud > 0 ? 1 : 0);
            run.due("one MINUTE", run.b.count(5), 1);
            run.due("one ACT", run.b.count(11), 1);
        }
        run.fill();
    }

    /** "-2 - its FAULT, and all stays": the TAPE, too, which is read again and again. */
    private static void faultsOverAndOver() {
        LongRunTest run = new LongRunTest("faults");
        run.dinner("dinner 2;dish 4 1;guest 3", 1);
        run.feed("eat 1 if [loud>3", 0);
        for (int i = 0; run.hasLeft(4); i++) {
            run.due("no DINNER at its first byte", run.b.dinner(), Due.faulty(0, 0));
            run.due("no RULE at its end", run.b.rule(), Due.faulty(16, 0));
            run.due("bytes", run.b.count(13), 16);
            run.due("the DINNER stays", run.b.dish(0, 0), 4);
        }
        run.fill();
    }

    /** Promise 5: six RULES, and none more as long as the object is used; the TAPE stays then. */
    private static void rulesAndTheirTape() {
        LongRunTest run = new LongRunTest("rules");
        for (int rule = 0; rule < 6; rule++) {
            run.rule("eat " + rule, rule);
        }
        run.feed("eat 6", 0);
        for (int i = 0; run.hasLeft(4); i++) {
            run.due("there are 6", run.b.rule(), -1);
            run.due("RULES", run.b.count(3), 6);
            run.due("bytes", run.b.count(13), 5);
            run.due("the TAPE is none of a DINNER", run.b.dinner(), Due.faulty(0, 0));
        }
        run.fill();
    }

    /** Promise 6: by each RULE another DISH is eaten next; no RULE wears off. */
    private static void forceToAndFro() {
        LongRunTest run = new LongRunTest("force");
        run.dinner("dinner 1;dish 1 0;dish 2 1;dish 3 2;dish 4 3;dish 5 4;dish 6 5", 6);
        for (int rule = 0; rule < 6; rule++) {
            run.rule("eat 1 if dish=" + (5 - rule), rule);
        }
        int was = -1;
        for (int i = 0; run.hasLeft(3); i++) {
            int rule = i * 5 % 7 - 1;
            run.due("which was", run.b.force(rule), was);
            run.due("IN FORCE", run.b.count(4), rule);
            run.due("what is eaten by it", run.b.ahead(-1, 1, 2), 63 & ~(rule < 0 ? 1 : 1 << 5 - rule));
            was = rule;
        }
        run.fill();
    }

    /** Promises 11 and 13: one DISH, eaten and served again, as often as calls can. */
    private static void minutesAndServing() {
        LongRunTest run = new LongRunTest("served");
        run.dinner("dinner 1;dish 5 0;guest 9", 1);
        int minutes = 0;
        while (run.hasLeft(6)) {
            run.due("minute", run.b.minute(), 1);
            run.due("serve", run.b.serve(0), 1);
            minutes++;
        }
        run.due("MINUTE", run.b.count(5), minutes);
        run.due("ACTS", run.b.count(11), 20);
        run.due("QUIET is now", run.b.quiet(), minutes);
        run.due("SAID now", run.b.said(0), minutes);
        run.fill();
    }

    /** The last MINUTE that 512 calls can reach; what is asked goes on from there, and tells MINUTES of all. */
    private static void minutesToTheLast() {
        LongRunTest run = new LongRunTest("minutes");
        run.dinner("dinner 3;dish 7 4;guest 6", 1);
        run.rule("eat minute-495", 0);
        run.due("force", run.b.force(0), -1);
        for (int minute = 0; minute < 490; minute++) {
            run.due("nothing SPEAKS", run.b.minute(), 0);
        }
        run.due("MINUTE", run.b.count(5), 490);
        run.due("SAID in", run.b.said(4), 496);
        run.due("LOUDEST in", run.b.loudest(100, 1), 496);
        run.due("LOUDEST", run.b.loudest(7, 0), 7);
        run.due("not in six", run.b.loudest(6, 0), 0);
        run.due("AHEAD six", run.b.ahead(0, 6, 0), 0);
        run.due("AHEAD seven", run.b.ahead(0, 7, 0), 16);
        run.due("QUIET now", run.b.quiet(), 490);
        run.due("ACTS", run.b.count(11), 20);
        run.due("undo", run.b.undo(), 19);
        run.due("MINUTE", run.b.count(5), 489);
        run.fill();
    }

    /** Promises 12 and 16: of 470 ACTS the last 20 can be UNDONE. */
    private static void offersAndUndo() {
        LongRunTest run = new LongRunTest("undo");
        run.dinner("dinner 1" + ";dish 1 1".repeat(8), 8);
        for (int i = 0; i < 470; i++) {
            run.due("offer", run.b.offer(i % 8), i == 0 ? -1 : (i - 1) % 8);
        }
        run.due("ACTS", run.b.count(11), 20);
        for (int left = 19; left >= 0; left--) {
            run.due("undo", run.b.undo(), left);
        }
        run.due("none more", run.b.undo(), -1);
        run.due("OFFERED as behind 450", run.b.count(9), 449 % 8);
        run.due("none", run.b.offer(-1), 449 % 8);
        run.due("undone", run.b.undo(), 0);
        run.due("OFFERED", run.b.count(9), 449 % 8);
        run.fill();
    }

    /** Promises 14 and 15: told two that clash, gone, fetched, over and over. */
    private static void fetchedAndTold() {
        LongRunTest run = new LongRunTest("fetched");
        run.dinner("dinner 4;guest 20;guest 20;clash 3 5", 0);
        for (int i = 0; run.hasLeft(9); i++) {
            int guest = i % 2;
            run.due("tell 3", run.b.tell(guest, 3), 8);
            run.due("tell 5", run.b.tell(guest, 5), 40);
            run.due("still sits", run.b.count(7), 3);
            run.due("minute", run.b.minute(), 0);
            run.due("has LEFT", run.b.count(7), 2 - guest);
            run.due("can't be told", run.b.tell(guest, 0), -1);
            run.due("BELIEVED", run.b.believed(0), 8);
            run.due("fetch", run.b.fetch(guest), 40);
            run.due("KNOWS nothing", run.b.count(8), 0);
        }
        run.fill();
    }

    /** Promises 30 to 32: NOTES told, refused and dropped, over and over. */
    private static void notesOverAndOver() {
        LongRunTest run = new LongRunTest("notes");
        run.dinner("dinner 1;dish 0 0;dish 5 3;guest 6;guest 5", 2);
        run.rule("eat dish", 0);
        for (int i = 0; run.hasLeft(18); i++) {
            int n = 2 + i;
            for (int many = 1; many <= 9; many++) {
                run.due("note", run.b.note(n, 1, 3, 1), many);
            }
            run.due("both are so", run.b.ruled(0), 2);
            run.due("LOOK", run.b.look(1, 0), 1);
            run.due("parts them", run.b.look(1, 1), 1);
            run.due("by none it is later", run.b.note(1, 1, 3, 1), 10);
            run.due("no more than 10", run.b.note(n, 1, 3, 0), -2);
            run.due("the RULE alone", run.b.ruled(0), 1);
            run.due("which", run.b.ruled(1), 0);
            run.due("there are none then", run.b.note(-1, 9, 9, 9), 0);
            run.due("NOTES", run.b.count(10), 0);
        }
        run.fill();
    }

    /** Promises 33 and 34: x is what was set last; what is drawn leaves it as it was. */
    private static void seedsAndHiccups() {
        LongRunTest run = new LongRunTest("seeds");
        run.dinner("dinner 2;dish 5 0;guest 5;guest 6", 1);
        int was = 0;
        for (int i = 0; run.hasLeft(5); i++) {
            int x = (i * 714025 + 1) & Integer.MAX_VALUE;
            run.due("what it was", run.b.seed(x), was);
            run.due("below 0", run.b.seed(-1 - i), -1);
            run.due("all sit", run.b.hiccups(1 + i % 10, 1 + i % 60, i % 101, 0), 2 * (1 + i % 10));
            run.due("one KNOWS it", run.b.hiccups(1 + i % 10, 1 + i % 60, i % 101, 1), 1 + i % 10);
            run.due("x as it was", run.b.count(12), x);
            was = x;
        }
        run.fill();
    }

    /** Promises 36 and 37: each IMAGE made anew and gone back to, over and over. */
    private static void imagesOverAndOver() {
        LongRunTest run = new LongRunTest("images");
        run.dinner("dinner 1;guest 0", 0);
        int minute = 0;
        for (int i = 0; run.hasLeft(7); i++) {
            run.due("image", run.b.image(i % 4), minute);
            run.due("minute", run.b.minute(), 0);
            run.due("tell", run.b.tell(0, i % 8), 1 << i % 8);
            run.due("back", run.b.back(i % 4), minute);
            run.due("as it was", run.b.guest(0, 1), 0);
            run.due("nothing can be UNDONE", run.b.undo(), -1);
            run.due("minute", run.b.minute(), 0);
            minute++;
        }
        run.fill();
    }

    /** An IMAGE of the first calls is gone back to by the last ones. */
    private static void imageKeptThroughout() {
        LongRunTest run = new LongRunTest("kept");
        run.dinner("dinner 3;dish 5 0;dish 9 1;dish 7 2;guest 4;guest 8;clash 0 1", 3);
        run.due("minute", run.b.minute(), 1);
        run.due("note", run.b.note(1, 0, 0, 1), 1);
        run.due("seed", run.b.seed(77), 0);
        run.due("image", run.b.image(2), 1);
        for (int i = 0; run.hasLeft(9 + 16); i++) {
            run.dinner("dinner 6;dish 1 " + i % 8 + ";guest 20", 1);
            run.due("tell", run.b.tell(0, 7), 128);
            run.due("seed", run.b.seed(i), i == 0 ? 77 : i - 1);
            run.due("image", run.b.image(i % 2), 0);
            run.due("minute", run.b.minute(), 1);
        }
        run.due("back", run.b.back(2), 1);
        int[] counts = {3, 3, 2, 0, -1, 1, 6, 3, 1, -1, 1, 0, 77, 0};
        for (int what = 0; what < counts.length; what++) {
            run.due("count " + what, run.b.count(what), counts[what]);
        }
        run.fill();
    }

    /** "By what is asked nothing changes": all that can be asked, in turn, always answers the same. */
    private static void askedOverAndOver() {
        LongRunTest run = new LongRunTest("asked");
        run.dinner("dinner 3;dish 5 0;dish 9 1;dish 7 2;dish 3 3;guest 4;guest 8;clash 0 1", 4);
        run.rule("eat 10-dish", 0);
        run.due("force", run.b.force(0), -1);
        run.due("minute", run.b.minute(), 1);
        run.due("note", run.b.note(1, 0, 0, 1), 1);
        run.due("offer", run.b.offer(3), -1);
        while (run.hasLeft(26 + 5)) {
            run.askAll();
        }
        run.due("ACTS", run.b.count(11), 2);
        run.due("OFFERED", run.b.count(9), 3);
        run.due("MINUTE", run.b.count(5), 1);
        run.due("DISH 0 sounds 4 in PLACE 1, DISH 3 less", run.b.minute(), 1);
        run.due("DISHES 1 and 2 are left", run.b.count(6), 6);
        run.fill();
    }

    /** GUEST 0 KNOWS SECRET 0; DISH 3 is eaten next, then 1 (heard by both; GUEST 0 LEAVES), then 2. */
    private void askAll() {
        due("ahead", b.ahead(0, 1, 0), 1);
        due("ahead", b.ahead(0, 2, 0), 3);
        due("ahead", b.ahead(0, 2, 1), 2);
        due("ahead", b.ahead(0, 1, 2), 6);
        due("said 1", b.said(1), 2);
        due("said 2", b.said(2), 5);
        due("said 3", b.said(3), -2);
        due("quiet", b.quiet(), 6);
        due("knowing", b.knowing(0), 1);
        due("bestRow", b.bestRow(1, 0), 2);
        due("bestRow", b.bestRow(1, 1), 2);
        due("hush", b.hush(1, 0), 1);
        due("hush", b.hush(1, 1), 3);
        due("rows", b.rows(0), 6);
        due("rows", b.rows(1), 0);
        due("believed", b.believed(0), 1);
        due("dropped", b.dropped(0), 1);
        due("leftOut", b.leftOut(3, 2), 1);
        due("rests", b.rests(0, 1, 1, 0), 10);
        due("crumbs", b.crumbs(7, 0), 7);
        due("loudest", b.loudest(10, 0), 9);
        due("loudest", b.loudest(10, 1), 2);
        due("ruled", b.ruled(0), 2);
        due("look", b.look(9, 1), 2);
        due("hiccups", b.hiccups(3, 1, 0, 0), 6);
        due("hiccups", b.hiccups(3, 3, 0, 1), 9);
    }

    /** "NONE, and nothing happens": all that can be refused, in turn, and nothing has happened. */
    private static void refusedOverAndOver() {
        LongRunTest run = new LongRunTest("refused");
        run.dinner("dinner 2;dish 5 0;dish 9 1;guest 4;guest 8", 2);
        run.due("minute", run.b.minute(), 1);
        while (run.hasLeft(19 + 14)) {
            run.refuseAll();
        }
        int[] counts = {2, 2, 2, 0, -1, 1, 2, 3, 1, -1, 0, 1, 0, 0};
        for (int what = 0; what < counts.length; what++) {
            run.due("count " + what, run.b.count(what), counts[what]);
        }
        run.fill();
    }

    private void refuseAll() {
        due("end 1", b.end(1), -1);
        due("dinner of nothing", b.dinner(), Due.faulty(0, 0));
        due("rule of nothing", b.rule(), Due.faulty(0, 0));
        due("force 0", b.force(0), -2);
        due("offer what is in the throat", b.offer(0), -2);
        due("offer none again", b.offer(-1), -2);
        due("offer 2", b.offer(2), -2);
        due("serve what is in the throat", b.serve(0), -1);
        due("serve what is on the table", b.serve(1), -1);
        due("fetch who sits", b.fetch(0), -1);
        due("fetch 2", b.fetch(2), -1);
        due("tell what they KNOW", b.tell(0, 0), -1);
        due("tell 8", b.tell(0, 8), -1);
        due("note 61", b.note(61, 0, 0, 0), -2);
        due("note of 2", b.note(0, 0, 0, 2), -2);
        due("seed -1", b.seed(-1), -1);
        due("image 4", b.image(4), -1);
        due("back never made", b.back(0), -1);
        due("count 14", b.count(14), -1);
    }

    /** The 511th call is answered, and the 512th shows what it did. */
    private static void theLastCallOfEach() {
        last("feed", b -> b.feed(1, 2, 3, 4, 5), 30, b -> b.count(13), 30);
        last("end", b -> b.end(4), 4, b -> b.count(13), 4);
        last("dinner", SpokenBite::dinner, Due.faulty(0, 0), b -> b.count(13), 10);
        last("rule", SpokenBite::rule, 3, b -> b.count(3), 4);
        last("force", b -> b.force(2), 1, b -> b.count(4), 2);
        last("minute", SpokenBite::minute, 2, b -> b.throat(1), 4);
        last("offer", b -> b.offer(3), 4, b -> b.count(9), 3);
        last("serve", b -> b.serve(0), 25, b -> b.dish(0, 2), -1);
        last("fetch", b -> b.fetch(2), 3, b -> b.guest(2, 2), 1);
        last("tell", b -> b.tell(1, 6), 194, b -> b.knowing(6), 2);
        last("undo", SpokenBite::undo, 4, b -> b.count(9), -1);
        last("note", b -> b.note(9, 2, 2, 1), 3, b -> b.count(10), 3);
        last("seed", b -> b.seed(5), 4711, b -> b.count(12), 5);
        last("image", b -> b.image(3), 3, b -> b.back(3), 3);
        last("back", b -> b.back(0), 0, b -> b.count(6), 31);
        last("back", b -> b.back(2), 3, SpokenBite::undo, -1);
    }

    private static void last(String name, Twin.Call call, int want, Twin.Call shown, int wanted) {
        LongRunTest run = new LongRunTest("the last " + name);
        run.beRich();
        while (run.hasLeft(3)) {
            run.due("MINUTE", run.b.count(5), 3);
        }
        run.due(name, call.on(run.b), want);
        run.due("what is shown", shown.on(run.b), wanted);
        run.ended();
    }

    /** As Twin.rich, each call with its answer. */
    private void beRich() {
        dinner(Twin.RICH_TEXT, 5);
        rule("eat 1+dish", 0);
        rule("eat 10-dish if minute<50", 1);
        rule("eat loud", 2);
        due("image", b.image(0), 0);
        due("force", b.force(1), -1);
        due("seed", b.seed(4711), 0);
        due("note", b.note(1, 0, 0, 1), 1);
        due("note", b.note(2, 1, 1, 1), 2);
        due("minute", b.minute(), 1);
        due("minute", b.minute(), 2);
        due("minute", b.minute(), 2);
        due("tell", b.tell(1, 7), 130);
        due("image", b.image(2), 3);
        due("offer", b.offer(4), -1);
        feed("eat 3-dish", 0);
    }
}
