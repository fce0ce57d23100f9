import java.util.Random;

/**
 * Runs of drawn calls, each answered by SpokenBite and by PlainBite; all promises at once, and how they mix. Each run has
 * as many calls as an object may be used for; the last of them look at all that can be seen.
 */
final class ModelTest {
    private static final int PROMISED = 512;
    /** More than the calls of a DINNER and two RULES of 400 bytes, fed anew. */
    private static final int SET_UP = 80;
    private static final int SEEN = 75;
    private static final String[] WORDS = {"dish", "loud", "says", "known", "clashes", "left", "throat", "top", "sitting", "minute"};
    private static final String[] STRANGE = {"eat", "if", "and", "or", "not", "[", "]", ";", "+", "-", "*", "/", "%", "<", "<=", "=",
        ">=", ">", "0", "7", "8", "123456", "99999", "dinner", "dish", "guest", "clash", "x", "A", "\u0000", "\u00e9", " ", "dishes", "21"};

    private final Random random;
    private final Due due;
    private final StringBuilder log = new StringBuilder();
    private SpokenBite bite = new SpokenBite();
    private PlainBite plain = new PlainBite();
    private int calls = 0;
    private boolean apart = false;

    private ModelTest(long seed, Due due) {
        this.random = new Random(seed);
        this.due = due;
    }

    public static void main(String[] args) {
        long first = args.length > 0 ? Long.parseLong(args[0]) : 1;
        int runs = args.length > 1 ? Integer.parseInt(args[1]) : 60;
        Due due = new Due();
        for (long seed = first; seed < first + runs; seed++) {
            new ModelTest(seed, due).run(seed);
        }
        for (long seed = first; seed < first + 40L * runs; seed++) {
            new ModelTest(~seed, due).texts();
        }
        due.close();
    }

    private int draw(int below) {
        return random.nextInt(below);
    }

    private boolean chance(int percent) {
        return draw(100) < percent;
    }

    private String blanks() {
        return chance(70) ? " " : chance(60) ? "" : "  ";
    }

    // ---- texts

    private String dinnerText() {
        StringBuilder s = new StringBuilder("dinner " + (1 + draw(6)));
        int dishes = chance(75) ? 3 + draw(6) : draw(9);
        int guests = chance(75) ? 2 + draw(4) : draw(6);
        int clashes = draw(8);
        int secrets = 2 + draw(7);
        int loudest = 3 + draw(18);
        while (dishes + guests + clashes > 0) {
            int kind = draw(dishes + guests + clashes);
            s.append(blanks()).append(";").append(blanks());
            if (kind < dishes) {
                s.append("dish").append(blanks()).append(draw(loudest + 1)).append(" ").append(draw(Math.min(8, secrets)));
                dishes--;
            } else if (kind < dishes + guests) {
                s.append("guest").append(blanks()).append(draw(loudest + 1));
                guests--;
            } else {
                int one = draw(8);
                s.append("clash").append(blanks()).append(one).append(" ").append((one + 1 + draw(7)) % 8);
                clashes--;
            }
        }
        return s.toString();
    }

    private String value() {
        return chance(70) ? WORDS[draw(WORDS.length)] : chance(80) ? "" + draw(12) : "" + draw(100000);
    }

    private String sum() {
        StringBuilder s = new StringBuilder(value());
        while (chance(40)) {
            s.append(blanks()).append("+-*/%".charAt(draw(5))).append(blanks()).append(value());
        }
        return s.toString();
    }

    private String fact(int depth) {
        if (depth > 0 && chance(20)) {
            return "not " + fact(depth - 1);
        }
        if (depth > 0 && chance(25)) {
            return "[" + blanks() + test(depth - 1) + blanks() + "]";
        }
        return sum() + blanks() + new String[] {"<", "<=", "=", ">=", ">"}[draw(5)] + blanks() + sum();
    }

    private String test(int depth) {
        StringBuilder s = new StringBuilder(fact(depth));
        while (chance(30)) {
            s.append(chance(50) ? " and " : " or ").append(fact(depth));
        }
        return s.toString();
    }

    private String ruleText() {
        StringBuilder s = new StringBuilder();
        int clauses = chance(95) ? 1 + draw(4) : 11 + draw(4);
        for (int i = 0; i < clauses; i++) {
            s.append(i == 0 ? "" : ";" + blanks()).append("eat ").append(sum());
            if (chance(60)) {
                s.append(" if ").append(test(chance(90) ? 3 : 12));
            }
        }
        return s.toString();
    }

    private String mutated(String text) {
        StringBuilder s = new StringBuilder(text);
        int times = 1 + draw(2);
        for (int i = 0; i < times; i++) {
            int at = draw(s.length() + 1);
            switch (draw(4)) {
                case 0 -> s.insert(at, STRANGE[draw(STRANGE.length)]);
                case 1 -> s.setLength(at);
                case 2 -> s.delete(at, Math.min(s.length(), at + 1 + draw(3)));
                default -> s.insert(at, " " + STRANGE[draw(STRANGE.length)] + " ");
            }
        }
        return s.toString();
    }

    private String edgeText() {
        int many = 8 + draw(5);
        switch (draw(6)) {
            case 0: return "eat 1 if " + "[".repeat(many) + "1=1" + "]".repeat(many);
            case 1: return "eat 1 if " + "not ".repeat(many) + "1=1";
            case 2: return "eat 1" + "+1".repeat(50 + draw(6)) + " if " + "1=1 and ".repeat(1 + draw(5)) + "2<3";
            case 3: return "eat 1;".repeat(10 + draw(3)) + "eat 2";
            case 4: return "dinner 3" + ";clash 0 1".repeat(36 + draw(5)) + ";";
            default: return "dinner 2" + ";dish 3 4".repeat(draw(10)) + ";guest 4".repeat(draw(7));
        }
    }

    private void feedBoth(String text) {
        due("end(0)", bite.end(0), plain.end(0));
        String cut = text.length() > 400 ? text.substring(0, 400) : text;
        byte[] bytes = cut.getBytes(java.nio.charset.StandardCharsets.ISO_8859_1);
        for (int at = 0; at < bytes.length; at += 20) {
            int[] w = new int[5];
            for (int i = 0; i < 5; i++) {
                w[i] = Due.wordOf(bytes, at + 4 * i);
            }
            due("feed", bite.feed(w[0], w[1], w[2], w[3], w[4]), plain.feed(w[0], w[1], w[2], w[3], w[4]));
        }
        log.append("text ").append(cut).append('\n');
        due("end(length)", bite.end(bytes.length), plain.end(bytes.length));
    }

    private void texts() {
        for (int i = 0; i < 8 && !apart; i++) {
            String text = chance(20) ? edgeText() : chance(40) ? dinnerText() : ruleText();
            feedBoth(chance(60) ? mutated(text) : text);
            due("dinner()", bite.dinner(), plain.dinner());
            due("rule()", bite.rule(), plain.rule());
        }
    }

    // ---- calls

    private void due(String call, int got, int want) {
        calls++;
        if (apart) {
            return;
        }
        log.append(call).append(" = ").append(want).append('\n');
        if (got != want) {
            apart = true;
            System.out.println(log);
        }
        due.due(call, got, want);
    }

    private void run(long seed) {
        log.append("seed ").append(seed).append('\n');
        int lookAt = chance(50) ? PROMISED - SEEN : draw(PROMISED - 2 * SEEN);
        boolean looked = false;
        while (calls < PROMISED && !apart) {
            if (!looked && calls >= lookAt && calls <= PROMISED - SEEN) {
                seeAll();
                looked = true;
            } else if (calls < 30 || chance(1) && calls + SET_UP < (looked ? PROMISED : lookAt)) {
                setUp();
            } else {
                oneCall();
            }
        }
        due.due("all calls of a run were made", apart ? PROMISED : calls, PROMISED);
        due.due("all was looked at", apart || looked ? 1 : 0, 1);
    }

    /** What other calls show behind those that came ahead. */
    private void seeAll() {
        for (int what = 0; what <= 13; what++) {
            due("count " + what, bite.count(what), plain.count(what));
        }
        for (int what = 0; what <= 2; what++) {
            for (int d = 0; d < 8; d++) {
                due("dish " + d + " " + what, bite.dish(d, what), plain.dish(d, what));
            }
            for (int g = 0; g < 5; g++) {
                due("guest " + g + " " + what, bite.guest(g, what), plain.guest(g, what));
            }
        }
        for (int secret = 0; secret < 8; secret++) {
            due("clashes " + secret, bite.clashes(secret), plain.clashes(secret));
            due("knowing " + secret, bite.knowing(secret), plain.knowing(secret));
        }
        for (int place = 0; place < 6; place++) {
            due("throat " + place, bite.throat(place), plain.throat(place));
        }
    }

    private void setUp() {
        feedBoth(chance(90) ? dinnerText() : mutated(dinnerText()));
        due("dinner()", bite.dinner(), plain.dinner());
        for (int i = draw(3); i > 0; i--) {
            feedBoth(chance(95) ? ruleText() : mutated(ruleText()));
            due("rule()", bite.rule(), plain.rule());
        }
        int rule = draw(5) - 1;
        due("force " + rule, bite.force(rule), plain.force(rule));
    }

    /** Mostly a number that is allowed. */
    private int number(int least, int most) {
        if (chance(96)) {
            return least + draw(most - least + 1);
        }
        if (chance(20)) {
            return chance(50) ? Integer.MIN_VALUE : chance(50) ? Integer.MAX_VALUE : random.nextInt();
        }
        return chance(50) ? least - 1 - draw(2) : most + 1 + draw(2);
    }

    private void oneCall() {
        int kind = draw(100);
        if (kind < 45) {
            act();
        } else if (kind < 60) {
            see();
        } else if (kind < 85) {
            ask();
        } else if (kind < 95) {
            keep();
        } else {
            askDear();
        }
    }

    private void act() {
        int dish = number(-1, 7);
        int guest = number(0, 4);
        int secret = number(0, 7);
        switch (draw(9)) {
            case 0, 1, 2 -> due("minute", bite.minute(), plain.minute());
            case 3 -> due("offer " + dish, bite.offer(dish), plain.offer(dish));
            case 4, 5 -> due("serve " + dish, bite.serve(dish), plain.serve(dish));
            case 6 -> due("fetch " + guest, bite.fetch(guest), plain.fetch(guest));
            case 7 -> due("tell " + guest + " " + secret, bite.tell(guest, secret), plain.tell(guest, secret));
            default -> {
                if (chance(50)) {
                    due("undo", bite.undo(), plain.undo());
                }
            }
        }
    }

    private void see() {
        int a = number(0, 7);
        int g = number(0, 4);
        int what = number(0, 2);
        int field = number(0, 13);
        switch (draw(6)) {
            case 0 -> due("dish " + a + " " + what, bite.dish(a, what), plain.dish(a, what));
            case 1 -> due("guest " + g + " " + what, bite.guest(g, what), plain.guest(g, what));
            case 2 -> due("clashes " + a, bite.clashes(a), plain.clashes(a));
            case 3 -> due("throat " + a, bite.throat(a), plain.throat(a));
            case 4 -> due("knowing " + a, bite.knowing(a), plain.knowing(a));
            default -> due("count " + field, bite.count(field), plain.count(field));
        }
    }

    private void ask() {
        int g = number(0, 4);
        int what = number(0, 2);
        int bit = number(0, 1);
        int secret = number(0, 7);
        int few = number(1, 3);
        switch (draw(13)) {
            case 0 -> {
                int n = chance(70) ? number(0, 9) : number(0, 100);
                due("ahead " + g + " " + n + " " + what, bite.ahead(g, n, what), plain.ahead(g, n, what));
            }
            case 1 -> due("said " + secret, bite.said(secret), plain.said(secret));
            case 2 -> due("quiet", bite.quiet(), plain.quiet());
            case 3 -> {
                int w = number(0, 4);
                due("bestRow " + few + " " + w, bite.bestRow(few, w), plain.bestRow(few, w));
            }
            case 4 -> {
                int w = number(0, 4);
                due("hush " + few + " " + w, bite.hush(few, w), plain.hush(few, w));
            }
            case 5 -> due("believed " + bit, bite.believed(bit), plain.believed(bit));
            case 6 -> due("dropped " + bit, bite.dropped(bit), plain.dropped(bit));
            case 7 -> {
                int n = number(1, 40);
                due("leftOut " + n + " " + what, bite.leftOut(n, what), plain.leftOut(n, what));
            }
            case 8 -> {
                int o = number(0, 4);
                int n = chance(90) ? number(1, 4) : number(1, 20);
                due("rests " + g + " " + o + " " + n + " " + what, bite.rests(g, o, n, what), plain.rests(g, o, n, what));
            }
            case 9 -> {
                int much = chance(50) ? number(0, 30) : number(0, 9999);
                due("crumbs " + much + " " + g, bite.crumbs(much, g), plain.crumbs(much, g));
            }
            case 10 -> {
                int n = number(1, 100);
                due("loudest " + n + " " + bit, bite.loudest(n, bit), plain.loudest(n, bit));
            }
            case 11 -> due("ruled " + bit, bite.ruled(bit), plain.ruled(bit));
            default -> {
                int n = number(0, 60);
                due("look " + n + " " + bit, bite.look(n, bit), plain.look(n, bit));
            }
        }
    }

    private void keep() {
        int k = number(0, 3);
        switch (draw(6)) {
            case 0 -> due("image " + k, bite.image(k), plain.image(k));
            case 1 -> due("back " + k, bite.back(k), plain.back(k));
            case 2 -> {
                int to = chance(90) ? random.nextInt() & Integer.MAX_VALUE : random.nextInt();
                due("seed " + to, bite.seed(to), plain.seed(to));
            }
            case 3 -> {
                int rule = draw(8) - 2;
                due("force " + rule, bite.force(rule), plain.force(rule));
            }
            default -> {
                int n = chance(20) ? -1 : chance(50) ? number(0, 5) : number(0, 60);
                int g = number(0, 4);
                int s = number(0, 7);
                int knows = chance(90) ? plainKnows(n, g, s) : number(0, 1);
                due("note " + n + " " + g + " " + s + " " + knows, bite.note(n, g, s, knows), plain.note(n, g, s, knows));
            }
        }
    }

    /** A note that some RULE, or none, fits: drawn ones hardly ever go together. */
    private int plainKnows(int n, int guest, int secret) {
        return plain.knewAfter(draw(2) == 0 ? -1 : plain.count(4), n, guest, secret);
    }

    private void askDear() {
        int w = number(0, 4);
        int bit = number(0, 1);
        int m = number(1, 10);
        int n = number(1, 60);
        int p = number(0, 100);
        switch (draw(8)) {
            case 0 -> due("rows " + w, bite.rows(w), plain.rows(w));
            case 1 -> due("bestRow 4 " + w, bite.bestRow(4, w), plain.bestRow(4, w));
            case 2 -> due("hush 4 " + w, bite.hush(4, w), plain.hush(4, w));
            default -> due("hiccups " + m + " " + n + " " + p + " " + bit, bite.hiccups(m, n, p, bit), plain.hiccups(m, n, p, bit));
        }
    }
}
