import java.util.ArrayList;
import java.util.Arrays;
import java.util.List;
import java.util.Set;
import java.util.TreeSet;

/**
 * The document in its plainest form, without care for speed: sets in place of bits, texts kept as tokens and read anew
 * each time, rows tried from the start. What SpokenBite answers is compared with what this answers.
 */
final class PlainBite {
    static final int NONE = -1;

    /** A token: kind 'n' a number, 'w' a word, else a sign; E the end. */
    record Token(char kind, String text, int place) { }

    static final class Told {
        int deep = 0;
        List<int[]> dishes = new ArrayList<>();
        List<Integer> ears = new ArrayList<>();
        boolean[][] clash = new boolean[8][8];

        Told withEars(int guest, int value) {
            Told other = new Told();
            other.deep = deep;
            other.dishes = dishes;
            other.clash = clash;
            other.ears = new ArrayList<>(ears);
            other.ears.set(guest, value);
            return other;
        }
    }

    static final class Stand {
        int minute = 0;
        int offered = NONE;
        Set<Integer> table = new TreeSet<>();
        List<Integer> throat = new ArrayList<>();
        List<Set<Integer>> knows = new ArrayList<>();
        Set<Integer> sitting = new TreeSet<>();
        Set<Integer> spoke = new TreeSet<>();
        int loudness = 0;

        Stand copy() {
            Stand s = new Stand();
            s.minute = minute;
            s.offered = offered;
            s.table = new TreeSet<>(table);
            s.throat = new ArrayList<>(throat);
            for (Set<Integer> k : knows) s.knows.add(new TreeSet<>(k));
            s.sitting = new TreeSet<>(sitting);
            return s;
        }

        int known() {
            int sum = 0;
            for (Set<Integer> k : knows) sum += k.size();
            return sum;
        }

        int knownSitting() {
            int sum = 0;
            for (int g : sitting) sum += knows.get(g).size();
            return sum;
        }
    }

    record Kept(Told told, Stand stand, List<int[]> notes, int force, int x) { }

    private byte[] tape = new byte[0];
    private Told told = new Told();
    private Stand now = new Stand();
    private final List<List<Token>> rules = new ArrayList<>();
    private int force = NONE;
    private int x = 0;
    private List<int[]> notes = new ArrayList<>();
    private final ArrayList<Stand> past = new ArrayList<>();
    private final Kept[] images = new Kept[4];

    // ---- texts

    static List<Token> tokens(byte[] text) {
        List<Token> all = new ArrayList<>();
        int i = 0;
        while (i < text.length) {
            char c = (char) (text[i] & 255);
            int from = i;
            if (c == ' ') {
                i++;
                continue;
            }
            if (c >= '0' && c <= '9') {
                while (i < text.length && text[i] >= '0' && text[i] <= '9') i++;
                all.add(new Token('n', new String(text, from, i - from), from));
            } else if (c >= 'a' && c <= 'z') {
                while (i < text.length && text[i] >= 'a' && text[i] <= 'z') i++;
                all.add(new Token('w', new String(text, from, i - from), from));
            } else if ((c == '<' || c == '>') && i + 1 < text.length && text[i + 1] == '=') {
                i += 2;
                all.add(new Token('s', c + "=", from));
            } else {
                i++;
                all.add(new Token('s', "" + c, from));
            }
        }
        all.add(new Token('E', "", text.length));
        return all;
    }

    static int fault(Token t, int kind) {
        return 1 + 8 * t.place() + kind;
    }

    static int dinnerFault(List<Token> all, Told into) {
        int at = 0;
        int clauses = 0;
        while (true) {
            Token word = all.get(at++);
            String name = word.kind() == 'w' ? word.text() : "";
            if (!List.of("dinner", "dish", "guest", "clash").contains(name)) return fault(word, 0);
            clauses++;
            if (clauses > 40) return fault(word, 4);
            if (name.equals("dinner") && clauses > 1) return fault(word, 4);
            if (!name.equals("dinner") && clauses == 1) return fault(word, 4);
            if (name.equals("dish") && into.dishes.size() == 8) return fault(word, 4);
            if (name.equals("guest") && into.ears.size() == 5) return fault(word, 4);
            int[][] limits = switch (name) {
                case "dinner" -> new int[][] {{1, 6}};
                case "dish" -> new int[][] {{0, 20}, {0, 7}};
                case "guest" -> new int[][] {{0, 20}};
                default -> new int[][] {{0, 7}, {0, 7}};
            };
            int[] got = new int[2];
            for (int i = 0; i < limits.length; i++) {
                Token number = all.get(at++);
                if (number.kind() != 'n') return fault(number, 0);
                if (number.text().length() > 5) return fault(number, 1);
                got[i] = Integer.parseInt(number.text());
                if (got[i] < limits[i][0] || got[i] > limits[i][1]) return fault(number, 1);
                if (name.equals("clash") && i == 1 && got[0] == got[1]) return fault(number, 1);
            }
            switch (name) {
                case "dinner" -> into.deep = got[0];
                case "dish" -> into.dishes.add(got);
                case "guest" -> into.ears.add(got[0]);
                default -> into.clash[got[0]][got[1]] = into.clash[got[1]][got[0]] = true;
            }
            Token behind = all.get(at++);
            if (behind.kind() == 'E') return 0;
            if (!behind.text().equals(";")) return fault(behind, 0);
        }
    }

    static final List<String> WORDS =
        List.of("dish", "loud", "says", "known", "clashes", "left", "throat", "top", "sitting", "minute");

    /** A machine that goes along the tokens with a pile of what is open. */
    static int ruleFault(List<Token> all) {
        String state = "clause";
        List<String> open = new ArrayList<>();
        int clauses = 0;
        int values = 0;
        for (Token t : all) {
            String s = t.text();
            boolean word = t.kind() == 'w';
            switch (state) {
                case "clause" -> {
                    if (!word || !s.equals("eat")) return fault(t, 0);
                    if (++clauses > 12) return fault(t, 4);
                    state = "eat value";
                }
                case "fact", "eat value", "left value", "right value" -> {
                    if (state.equals("fact") && (s.equals("[") || s.equals("not"))) {
                        if (open.size() == 10) return fault(t, 2);
                        open.add(s);
                        continue;
                    }
                    boolean number = t.kind() == 'n';
                    if (!number && !(word && WORDS.contains(s))) return fault(t, 0);
                    if (number && s.length() > 5) return fault(t, 1);
                    if (++values > 60) return fault(t, 3);
                    state = state.equals("eat value") ? "eat behind" : state.equals("right value") ? "right behind" : "left behind";
                }
                default -> {
                    if (t.kind() == 's' && "+-*/%".contains(s)) {
                        state = state.replace("behind", "value");
                        if (state.equals("closed")) return fault(t, 0);
                        continue;
                    }
                    if (state.equals("left behind")) {
                        if (!List.of("<", "<=", "=", ">=", ">").contains(s)) return fault(t, 0);
                        if (++values > 60) return fault(t, 3);
                        state = "right value";
                        continue;
                    }
                    boolean eat = state.equals("eat behind");
                    if (eat && word && s.equals("if")) {
                        state = "fact";
                        continue;
                    }
                    if (!eat) {
                        while (!open.isEmpty() && open.get(open.size() - 1).equals("not")) open.remove(open.size() - 1);
                        if (word && (s.equals("and") || s.equals("or"))) {
                            state = "fact";
                            continue;
                        }
                        if (s.equals("]") && !open.isEmpty()) {
                            open.remove(open.size() - 1);
                            state = "closed";
                            continue;
                        }
                        if (!open.isEmpty()) return fault(t, 0);
                    }
                    if (t.kind() == 'E') return 0;
                    if (!s.equals(";")) return fault(t, 0);
                    state = "clause";
                }
            }
        }
        throw new IllegalStateException();
    }

    // ---- what a rule is worth, read by splitting its tokens

    long worth(List<Token> rule, Told of, Stand s, int dish) {
        int from = 0;
        for (int i = 0; i < rule.size(); i++) {
            Token t = rule.get(i);
            if (t.kind() == 'E' || t.text().equals(";")) {
                List<Token> clause = rule.subList(from + 1, i);
                from = i + 1;
                int cut = -1;
                for (int j = 0; j < clause.size(); j++) if (clause.get(j).text().equals("if")) cut = j;
                if (cut < 0) return sum(clause, of, s, dish);
                if (test(clause.subList(cut + 1, clause.size()), of, s, dish)) return sum(clause.subList(0, cut), of, s, dish);
            }
        }
        return 0;
    }

    /** The last of some signs that is in no bracket, or -1. */
    static int lastOf(List<Token> ts, String... signs) {
        int depth = 0;
        for (int i = ts.size() - 1; i >= 0; i--) {
            String text = ts.get(i).text();
            if (text.equals("]")) depth++;
            if (text.equals("[")) depth--;
            if (depth == 0 && Arrays.asList(signs).contains(text)) return i;
        }
        return -1;
    }

    boolean test(List<Token> ts, Told of, Stand s, int dish) {
        int cut = lastOf(ts, "or");
        if (cut >= 0) return test(ts.subList(0, cut), of, s, dish) || test(ts.subList(cut + 1, ts.size()), of, s, dish);
        cut = lastOf(ts, "and");
        if (cut >= 0) return test(ts.subList(0, cut), of, s, dish) && test(ts.subList(cut + 1, ts.size()), of, s, dish);
        if (ts.get(0).text().equals("not")) return !test(ts.subList(1, ts.size()), of, s, dish);
        if (ts.get(0).text().equals("[")) return test(ts.subList(1, ts.size() - 1), of, s, dish);
        cut = lastOf(ts, "<", "<=", "=", ">=", ">");
        int c = Long.compare(sum(ts.subList(0, cut), of, s, dish), sum(ts.subList(cut + 1, ts.size()), of, s, dish));
        return switch (ts.get(cut).text()) {
            case "<" -> c < 0;
            case "<=" -> c <= 0;
            case "=" -> c == 0;
            case ">=" -> c >= 0;
            default -> c > 0;
        };
    }

    long sum(List<Token> ts, Told of, Stand s, int dish) {
        int cut = lastOf(ts, "+", "-");
        if (cut < 0) cut = lastOf(ts, "*", "/", "%");
        if (cut < 0) return value(ts.get(0), of, s, dish);
        long a = sum(ts.subList(0, cut), of, s, dish);
        long b = sum(ts.subList(cut + 1, ts.size()), of, s, dish);
        return switch (ts.get(cut).text()) {
            case "+" -> a + b;
            case "-" -> a - b;
            case "*" -> a * b;
            case "/" -> b == 0 ? 0 : a / b;
            default -> b == 0 ? 0 : a % b;
        };
    }

    long value(Token t, Told of, Stand s, int dish) {
        if (t.kind() == 'n') return Long.parseLong(t.text());
        int secret = of.dishes.get(dish)[1];
        switch (t.text()) {
            case "dish": return dish;
            case "loud": return of.dishes.get(dish)[0];
            case "says": return secret;
            case "known": return s.sitting.stream().filter(g -> s.knows.get(g).contains(secret)).count();
            case "clashes":
                Set<Integer> any = new TreeSet<>();
                for (int g : s.sitting) any.addAll(s.knows.get(g));
                return any.stream().filter(k -> of.clash[k][secret]).count();
            case "left": return s.table.size();
            case "throat": return s.throat.stream().filter(d -> d != NONE).count();
            case "top":
                for (int d : s.throat) if (d != NONE) return of.dishes.get(d)[0];
                return 0;
            case "sitting": return s.sitting.size();
            default: return s.minute;
        }
    }

    // ---- minutes

    static Stand begin(Told of) {
        Stand s = new Stand();
        for (int i = 0; i < of.dishes.size(); i++) s.table.add(i);
        for (int i = 0; i < of.deep; i++) s.throat.add(NONE);
        for (int i = 0; i < of.ears.size(); i++) {
            s.knows.add(new TreeSet<>());
            s.sitting.add(i);
        }
        return s;
    }

    int choice(Told of, Stand s, int rule) {
        if (s.offered != NONE) return s.offered;
        if (rule == NONE) return s.table.isEmpty() ? NONE : s.table.iterator().next();
        int best = NONE;
        long most = 0;
        for (int dish : s.table) {
            long w = worth(rules.get(rule), of, s, dish);
            if (w > most) {
                most = w;
                best = dish;
            }
        }
        return best;
    }

    void pass(Told of, Stand s, int rule) {
        eat(of, s, choice(of, s, rule));
    }

    static void eat(Told of, Stand s, int dish) {
        s.offered = NONE;
        if (dish != NONE) {
            s.table.remove(dish);
            s.throat.set(0, dish);
        }
        int most = 0;
        for (int p = 0; p < of.deep; p++) if (s.throat.get(p) != NONE) most = Math.max(most, of.dishes.get(s.throat.get(p))[0] - p);
        s.loudness = most;
        s.spoke = new TreeSet<>();
        if (most > 0) {
            for (int p = 0; p < of.deep; p++) {
                int d = s.throat.get(p);
                if (d != NONE && of.dishes.get(d)[0] - p == most) s.spoke.add(d);
            }
        }
        for (int g : s.sitting) if (of.ears.get(g) <= most) for (int d : s.spoke) s.knows.get(g).add(of.dishes.get(d)[1]);
        s.sitting.removeIf(g -> {
            for (int a : s.knows.get(g)) for (int b : s.knows.get(g)) if (of.clash[a][b]) return true;
            return false;
        });
        s.throat.add(0, NONE);
        s.throat.remove(of.deep);
        s.minute++;
    }

    Stand later(Told of, Stand from, int rule, int n) {
        Stand s = from.copy();
        for (int i = 0; i < n; i++) pass(of, s, rule);
        return s;
    }

    static int bits(Iterable<Integer> set) {
        int b = 0;
        for (int i : set) b |= 1 << i;
        return b;
    }

    boolean no() {
        return told.deep == 0;
    }

    boolean dishThere(int d) {
        return d >= 0 && d < told.dishes.size();
    }

    boolean guestThere(int g) {
        return g >= 0 && g < told.ears.size();
    }

    static boolean in(int v, int lo, int hi) {
        return v >= lo && v <= hi;
    }

    void remember() {
        past.add(now.copy());
        if (past.size() > 20) past.remove(0);
    }

    // ---- the face

    int feed(int a, int b, int c, int d, int e) {
        if (tape.length + 20 > 400) return NONE;
        java.nio.ByteBuffer buffer = java.nio.ByteBuffer.allocate(tape.length + 20);
        buffer.put(tape).putInt(a).putInt(b).putInt(c).putInt(d).putInt(e);
        tape = buffer.array();
        return tape.length;
    }

    int end(int n) {
        if (n < 0 || n > tape.length) return NONE;
        tape = Arrays.copyOf(tape, n);
        return n;
    }

    int dinner() {
        Told next = new Told();
        int fault = dinnerFault(tokens(tape), next);
        if (fault != 0) return -2 - fault;
        tape = new byte[0];
        told = next;
        now = begin(told);
        notes = new ArrayList<>();
        past.clear();
        return told.dishes.size();
    }

    int rule() {
        if (rules.size() == 6) return NONE;
        List<Token> all = tokens(tape);
        int fault = ruleFault(all);
        if (fault != 0) return -2 - fault;
        tape = new byte[0];
        rules.add(all);
        return rules.size() - 1;
    }

    int force(int rule) {
        if (rule < NONE || rule >= rules.size()) return -2;
        int was = force;
        force = rule;
        return was;
    }

    int dish(int dish, int what) {
        if (!dishThere(dish) || !in(what, 0, 2)) return -3;
        if (what < 2) return told.dishes.get(dish)[what];
        if (now.table.contains(dish)) return NONE;
        return now.throat.contains(dish) ? now.throat.indexOf(dish) : -2;
    }

    int guest(int guest, int what) {
        if (!guestThere(guest) || !in(what, 0, 2)) return NONE;
        if (what == 0) return told.ears.get(guest);
        return what == 1 ? bits(now.knows.get(guest)) : now.sitting.contains(guest) ? 1 : 0;
    }

    int clashes(int secret) {
        if (no() || !in(secret, 0, 7)) return NONE;
        int b = 0;
        for (int i = 0; i < 8; i++) if (told.clash[secret][i]) b |= 1 << i;
        return b;
    }

    int throat(int place) {
        return in(place, 0, told.deep - 1) ? now.throat.get(place) : -2;
    }

    int minute() {
        if (no() || now.minute == 999) return NONE;
        remember();
        pass(told, now, force);
        return bits(now.spoke);
    }

    int offer(int dish) {
        if (no() || dish == now.offered || dish != NONE && !now.table.contains(dish)) return -2;
        remember();
        int was = now.offered;
        now.offered = dish;
        return was;
    }

    int serve(int dish) {
        if (!dishThere(dish) || dish(dish, 2) != -2) return NONE;
        remember();
        now.table.add(dish);
        return bits(now.table);
    }

    int fetch(int guest) {
        if (!guestThere(guest) || now.sitting.contains(guest)) return NONE;
        remember();
        int knew = bits(now.knows.get(guest));
        now.knows.get(guest).clear();
        now.sitting.add(guest);
        return knew;
    }

    int tell(int guest, int secret) {
        if (!guestThere(guest) || !in(secret, 0, 7) || !now.sitting.contains(guest)) return NONE;
        if (now.knows.get(guest).contains(secret)) return NONE;
        remember();
        now.knows.get(guest).add(secret);
        return bits(now.knows.get(guest));
    }

    int undo() {
        if (past.isEmpty()) return NONE;
        now = past.remove(past.size() - 1);
        return past.size();
    }

    int ahead(int guest, int n, int what) {
        if (no() || !in(n, 0, 100) || !in(what, 0, 2) || what == 0 && !guestThere(guest)) return NONE;
        Stand s = later(told, now, force, n);
        return bits(what == 0 ? s.knows.get(guest) : what == 1 ? s.sitting : s.table);
    }

    int said(int secret) {
        if (no() || !in(secret, 0, 7)) return NONE;
        Stand s = now.copy();
        for (int i = 0; i < 100; i++) {
            int m = s.minute;
            pass(told, s, force);
            for (int d : s.spoke) if (told.dishes.get(d)[1] == secret) return m;
        }
        return -2;
    }

    int quiet() {
        if (no()) return NONE;
        for (int i = 0; i < 100; i++) {
            Stand s = later(told, now, force, i);
            if (s.throat.stream().allMatch(d -> d == NONE)) return s.minute;
        }
        return -2;
    }

    int knowing(int secret) {
        if (no() || !in(secret, 0, 7)) return NONE;
        int b = 0;
        for (int g = 0; g < now.knows.size(); g++) if (now.knows.get(g).contains(secret)) b |= 1 << g;
        return b;
    }

    /** All rows of so many of -1 to 7, in order; null where one can't be eaten. */
    private Stand eaten(Stand from, int[] row, boolean mustEat) {
        Stand s = from.copy();
        for (int d : row) {
            if (d != NONE && !s.table.contains(d)) return null;
            if (d == NONE && mustEat && !s.table.isEmpty()) return null;
            eat(told, s, d);
        }
        return s;
    }

    private static boolean next(int[] row) {
        for (int i = row.length - 1; i >= 0; i--) {
            if (++row[i] < 8) return true;
            row[i] = NONE;
        }
        return false;
    }

    private int bestOf(boolean hush, int n, int what) {
        if (no() || !in(n, 1, 4) || !in(what, 0, 4)) return -3;
        int[] row = new int[n];
        Arrays.fill(row, NONE);
        int[] best = null;
        int much = 0;
        do {
            Stand s = eaten(now, row, hush);
            if (s == null) continue;
            int k = hush ? s.known() : s.knownSitting();
            if (best == null || (hush ? k < much : k > much)) {
                best = row.clone();
                much = k;
            }
        } while (next(row));
        return what == 0 ? much : what > n ? -2 : best[what - 1];
    }

    int bestRow(int n, int what) {
        return bestOf(false, n, what);
    }

    int hush(int n, int what) {
        return bestOf(true, n, what);
    }

    private static boolean holds(int[] note, Stand s) {
        return s.knows.get(note[1]).contains(note[2]) == (note[3] == 1);
    }

    int rows(int what) {
        if (no() || !in(what, 0, 4)) return NONE;
        int many = 0;
        int[] first = null;
        int[] row = {NONE, NONE, NONE, NONE};
        do {
            Set<Integer> unlike = new TreeSet<>();
            for (int d : row) unlike.add(d);
            if (unlike.size() < 4 || unlike.contains(NONE)) continue;
            if (eaten(begin(told), row, false) == null) continue;
            boolean so = true;
            for (int[] note : notes) {
                int by = Math.min(4, note[0]);
                Stand s = eaten(begin(told), Arrays.copyOf(row, by), false);
                so = so && holds(note, later(told, s, force, note[0] - by));
                if (!so) break;
            }
            if (so) {
                many++;
                if (first == null) first = row.clone();
            }
        } while (next(row));
        return what == 0 ? many : first == null ? -2 : first[what - 1];
    }

    int believed(int what) {
        if (no() || !in(what, 0, 1)) return NONE;
        int best = 0;
        int most = 0;
        for (int set = 255; set >= 0; set--) {
            boolean so = true;
            for (int i = 0; i < 8; i++) {
                if ((set >> i & 1) == 0) continue;
                so = so && knowing(i) != 0;
                for (int j = 0; j < 8; j++) if ((set >> j & 1) != 0 && told.clash[i][j]) so = false;
            }
            if (so && Integer.bitCount(set) >= most) {
                most = Integer.bitCount(set);
                best = set;
            }
        }
        return what == 0 ? best : most;
    }

    int dropped(int what) {
        if (no() || !in(what, 0, 1)) return NONE;
        int best = 255;
        for (int set = 255; set >= 0; set--) {
            boolean so = true;
            for (int i = 0; i < 8; i++) {
                for (int j = 0; j < 8; j++) if (told.clash[i][j] && (set >> i & 1) == 0 && (set >> j & 1) == 0) so = false;
            }
            if (so && Integer.bitCount(set) <= Integer.bitCount(best)) best = set;
        }
        return what == 0 ? best : Integer.bitCount(best);
    }

    int leftOut(int n, int what) {
        if (no() || !in(n, 1, 40) || !in(what, 0, 2)) return NONE;
        int[] best = null;
        for (int dish = NONE; dish < 8; dish++) {
            if (dish != NONE && !now.table.contains(dish)) continue;
            Stand s = now.copy();
            s.table.remove(dish);
            if (dish != NONE && s.offered == dish) s.offered = NONE;
            s = later(told, s, force, n);
            int[] got = {s.sitting.size(), s.known(), dish == NONE ? -2 : dish};
            if (best == null || got[0] > best[0] || got[0] == best[0] && got[1] > best[1]) best = got;
        }
        return best[what];
    }

    private int gain(int guest, int one, int a, int other, int b, int n) {
        Stand s = later(told.withEars(one, 3 * a).withEars(other, 3 * b), now, force, n);
        return s.knows.get(guest).size() + (s.sitting.contains(guest) ? 3 : 0);
    }

    int rests(int one, int other, int n, int what) {
        if (!guestThere(one) || !guestThere(other) || one == other || !in(n, 1, 20) || !in(what, 0, 2)) return NONE;
        int many = 0;
        int[] first = {0, -2, -2};
        for (int a = 0; a < 5; a++) {
            for (int b = 0; b < 5; b++) {
                boolean rest = true;
                for (int c = 0; c < 5 && rest; c++) {
                    rest = gain(one, one, c, other, b, n) <= gain(one, one, a, other, b, n)
                        && gain(other, one, a, other, c, n) <= gain(other, one, a, other, b, n);
                }
                if (rest && many++ == 0) first = new int[] {0, 3 * a, 3 * b};
            }
        }
        return what == 0 ? many : first[what];
    }

    int crumbs(int much, int guest) {
        if (!guestThere(guest) || !in(much, 0, 9999)) return NONE;
        int all = now.known();
        if (all == 0) return 0;
        int n = told.ears.size();
        int[] part = new int[n];
        List<Integer> order = new ArrayList<>();
        int left = much;
        for (int g = 0; g < n; g++) {
            part[g] = much * now.knows.get(g).size() / all;
            left -= part[g];
            order.add(g);
        }
        order.sort((g, h) -> (much * now.knows.get(h).size() % all) - (much * now.knows.get(g).size() % all));
        for (int i = 0; i < left; i++) part[order.get(i)]++;
        return part[guest];
    }

    int loudest(int n, int what) {
        if (no() || !in(n, 1, 100) || !in(what, 0, 1)) return NONE;
        Stand s = now.copy();
        int most = 0;
        int when = -2;
        for (int i = 0; i < n; i++) {
            int m = s.minute;
            pass(told, s, force);
            if (s.loudness > most) {
                most = s.loudness;
                when = m;
            }
        }
        return what == 0 ? most : when;
    }

    int note(int n, int guest, int secret, int knows) {
        if (n == NONE) {
            notes.clear();
            return 0;
        }
        if (!in(n, 0, 60) || !guestThere(guest) || !in(secret, 0, 7) || !in(knows, 0, 1) || notes.size() == 10) return -2;
        notes.add(new int[] {n, guest, secret, knows});
        return notes.size();
    }

    /** For the test that draws NOTES: 1 if a GUEST KNOWS a SECRET behind the n-th MINUTE by a RULE, else 0. */
    int knewAfter(int rule, int n, int guest, int secret) {
        if (no() || !in(n, 0, 60) || !guestThere(guest)) return 0;
        return later(told, begin(told), rule, n).knows.get(guest).contains(secret) ? 1 : 0;
    }

    private List<Integer> so() {
        List<Integer> fit = new ArrayList<>();
        for (int r = NONE; r < rules.size(); r++) {
            boolean all = true;
            for (int[] note : notes) all = all && holds(note, later(told, begin(told), r, note[0]));
            if (all) fit.add(r);
        }
        return fit;
    }

    int ruled(int what) {
        if (no() || !in(what, 0, 1)) return -3;
        List<Integer> fit = so();
        return what == 0 ? fit.size() : fit.isEmpty() ? -2 : fit.get(0);
    }

    int look(int n, int what) {
        if (no() || !in(n, 0, 60) || !in(what, 0, 1)) return NONE;
        List<Integer> fit = so();
        if (fit.isEmpty() || told.ears.isEmpty()) return -2;
        int best = 0;
        int fewest = 99;
        for (int g = 0; g < told.ears.size(); g++) {
            int[] classes = new int[256];
            for (int r : fit) classes[bits(later(told, begin(told), r, n).knows.get(g))]++;
            int most = Arrays.stream(classes).max().getAsInt();
            if (most < fewest) {
                fewest = most;
                best = g;
            }
        }
        return what == 0 ? best : fewest;
    }

    int seed(int to) {
        if (to < 0) return NONE;
        int was = x;
        x = to;
        return was;
    }

    private long drawing;

    private int draw() {
        drawing = (drawing * 1103515245L + 12345L) % 2147483648L;
        return (int) (drawing / 65536);
    }

    int hiccups(int m, int n, int p, int what) {
        if (no() || !in(m, 1, 10) || !in(n, 1, 60) || !in(p, 0, 100) || !in(what, 0, 1)) return NONE;
        drawing = x;
        int sum = 0;
        for (int i = 0; i < m; i++) {
            Stand s = now.copy();
            for (int j = 0; j < n; j++) {
                if (draw() % 100 < p) {
                    int place = draw() % told.deep;
                    if (s.throat.get(place) != NONE) s.table.add(s.throat.set(place, NONE));
                }
                pass(told, s, force);
            }
            sum += what == 0 ? s.sitting.size() : s.known();
        }
        return sum;
    }

    int count(int what) {
        int[] all = {told.deep, told.dishes.size(), told.ears.size(), rules.size(), force, now.minute, bits(now.table),
            bits(now.sitting), now.known(), now.offered, notes.size(), past.size(), x, tape.length};
        return in(what, 0, 13) ? all[what] : NONE;
    }

    int image(int k) {
        if (!in(k, 0, 3)) return NONE;
        images[k] = new Kept(told, now.copy(), new ArrayList<>(notes), force, x);
        return now.minute;
    }

    int back(int k) {
        if (!in(k, 0, 3) || images[k] == null) return NONE;
        told = images[k].told();
        now = images[k].stand().copy();
        notes = new ArrayList<>(images[k].notes());
        force = images[k].force();
        x = images[k].x();
        past.clear();
        return now.minute;
    }
}
