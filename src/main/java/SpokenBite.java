/** Whatever he swallows he is asked about: a dinner told in a language, its minutes, and what can be asked of them. */
public final class SpokenBite {
    public static final int NONE = -1;

    private static final int ABSENT = -2;
    private static final int REFUSED = -3;
    private static final int MOST_BYTES = 400;
    private static final int FED_BYTES = 20;
    private static final int MOST_DEEP = 6;
    private static final int MOST_DISHES = 8;
    private static final int MOST_GUESTS = 5;
    private static final int MOST_SECRETS = 8;
    private static final int MOST_RULES = 6;
    private static final int MOST_NOTES = 10;
    private static final int MOST_IMAGES = 4;
    private static final int MOST_UNDONE = 20;
    private static final int LAST_MINUTE = 999;
    private static final int LAST_NOTED = 60;
    private static final int ASKED_MINUTES = 100;
    private static final int ROW_LENGTH = 4;
    private static final int EARS_CHOICES = 5;
    private static final int EARS_STEP = 3;
    private static final int SITTING_GAIN = 3;

    private final int[] tape = new int[MOST_BYTES];
    private int taped;
    private final DinnerReader dinnerReader = new DinnerReader();
    private final RuleReader ruleReader = new RuleReader();
    private final Rule[] rules = new Rule[MOST_RULES];
    private int ruleCount;
    private int inForce = NONE;
    private final Dinner told = new Dinner();
    private final Dinner draft = new Dinner();
    private final Evening now = new Evening();
    private final Evening trial = new Evening();
    private final Notes notes = new Notes();
    private final Past past = new Past();
    private final Image[] images = new Image[MOST_IMAGES];
    private final Course course = new Course();
    private final RowSearch search = new RowSearch();
    private final int[] gains = new int[2 * EARS_CHOICES * EARS_CHOICES];
    private final long[] parted = new long[MOST_RULES + 1];
    private int x;

    public SpokenBite() {
        for (int i = 0; i < MOST_RULES; i++) {
            rules[i] = new Rule();
        }
        for (int k = 0; k < MOST_IMAGES; k++) {
            images[k] = new Image();
        }
    }

    public int feed(int a, int b, int c, int d, int e) {
        if (taped > MOST_BYTES - FED_BYTES) {
            return NONE;
        }
        addBytes(a);
        addBytes(b);
        addBytes(c);
        addBytes(d);
        addBytes(e);
        return taped;
    }

    private void addBytes(int number) {
        for (int shift = 24; shift >= 0; shift -= 8) {
            if (taped >= 0 && taped < tape.length) {
                tape[taped] = (number >>> shift) & 255;
                taped++;
            }
        }
    }

    public int end(int n) {
        if (n < 0 || n > taped) {
            return NONE;
        }
        taped = n;
        return n;
    }

    public int dinner() {
        int fault = dinnerReader.read(tape, taped, draft);
        if (fault != 0) {
            return -2 - fault;
        }
        taped = 0;
        told.take(draft);
        now.begin(told);
        notes.clear();
        past.clear();
        return told.dishes;
    }

    public int rule() {
        Rule slot = ruleAt(ruleCount);
        if (slot == null) {
            return NONE;
        }
        int fault = ruleReader.read(tape, taped, slot);
        if (fault != 0) {
            return -2 - fault;
        }
        taped = 0;
        ruleCount++;
        return ruleCount - 1;
    }

    private Rule ruleAt(int number) {
        return number >= 0 && number < rules.length ? rules[number] : null;
    }

    public int force(int rule) {
        if (rule < NONE || rule >= ruleCount) {
            return ABSENT;
        }
        int was = inForce;
        inForce = rule;
        return was;
    }

    private boolean untold() {
        return told.deep == 0;
    }

    private boolean isDish(int dish) {
        return dish >= 0 && dish < told.dishes;
    }

    private boolean isGuest(int guest) {
        return guest >= 0 && guest < told.guests;
    }

    private static boolean isSecret(int secret) {
        return secret >= 0 && secret < MOST_SECRETS;
    }

    private static boolean within(int number, int least, int most) {
        return number >= least && number <= most;
    }

    public int dish(int dish, int what) {
        if (!isDish(dish) || !within(what, 0, 2)) {
            return REFUSED;
        }
        if (what == 0) {
            return told.loud[dish & 7];
        }
        if (what == 1) {
            return told.says[dish & 7];
        }
        return now.onTable(dish) ? NONE : now.placeOf(dish);
    }

    public int guest(int guest, int what) {
        if (!isGuest(guest) || !within(what, 0, 2)) {
            return NONE;
        }
        if (what == 0) {
            return told.ears[guest & 7];
        }
        if (what == 1) {
            return now.knownBy(guest);
        }
        return now.sits(guest) ? 1 : 0;
    }

    public int clashes(int secret) {
        if (untold() || !isSecret(secret)) {
            return NONE;
        }
        return told.clash[secret & 7];
    }

    public int throat(int place) {
        if (place < 0 || place >= told.deep) {
            return ABSENT;
        }
        return now.dishIn(place);
    }

    public int minute() {
        if (untold() || now.minute >= LAST_MINUTE) {
            return NONE;
        }
        past.keep(now);
        layNow();
        course.pass(now);
        return course.speaking;
    }

    public int offer(int dish) {
        boolean may = dish == NONE || isDish(dish) && now.onTable(dish);
        if (untold() || !may || dish == now.offered) {
            return ABSENT;
        }
        past.keep(now);
        int was = now.offered;
        now.offered = dish;
        return was;
    }

    public int serve(int dish) {
        if (!isDish(dish) || now.onTable(dish) || now.placeOf(dish) != ABSENT) {
            return NONE;
        }
        past.keep(now);
        now.table |= 1 << dish;
        return now.table;
    }

    public int fetch(int guest) {
        if (!isGuest(guest) || now.sits(guest)) {
            return NONE;
        }
        past.keep(now);
        int knew = now.knownBy(guest);
        now.forget(guest);
        now.sitting |= 1 << guest;
        return knew;
    }

    public int tell(int guest, int secret) {
        if (!isGuest(guest) || !isSecret(secret) || !now.sits(guest)) {
            return NONE;
        }
        if ((now.knownBy(guest) >> secret & 1) != 0) {
            return NONE;
        }
        past.keep(now);
        now.learn(guest, 1 << secret);
        return now.knownBy(guest);
    }

    public int undo() {
        return past.giveBack(now) ? past.kept : NONE;
    }

    private void layNow() {
        course.lay(told, ruleAt(inForce));
    }

    /** What is asked goes on from a copy, so that nothing changes by it. */
    private void startTrial() {
        layNow();
        trial.take(now);
    }

    public int ahead(int guest, int n, int what) {
        if (untold() || !within(n, 0, ASKED_MINUTES) || !within(what, 0, 2)) {
            return NONE;
        }
        if (what == 0 && !isGuest(guest)) {
            return NONE;
        }
        startTrial();
        course.passSome(trial, n);
        if (what == 0) {
            return trial.knownBy(guest);
        }
        return what == 1 ? trial.sitting : trial.table;
    }

    public int said(int secret) {
        if (untold() || !isSecret(secret)) {
            return NONE;
        }
        startTrial();
        for (int i = 0; i < ASKED_MINUTES; i++) {
            course.pass(trial);
            if ((course.saying >> secret & 1) != 0) {
                return trial.minute - 1;
            }
        }
        return ABSENT;
    }

    public int quiet() {
        if (untold()) {
            return NONE;
        }
        startTrial();
        for (int i = 0; i < ASKED_MINUTES; i++) {
            if (trial.gullet == 0) {
                return trial.minute;
            }
            course.pass(trial);
        }
        return ABSENT;
    }

    public int knowing(int secret) {
        if (untold() || !isSecret(secret)) {
            return NONE;
        }
        int guests = 0;
        for (int guest = 0; guest < MOST_GUESTS; guest++) {
            guests |= (now.knownBy(guest) >> secret & 1) << guest;
        }
        return guests;
    }

    public int bestRow(int n, int what) {
        return bestOfRows(RowSearch.MOST_KNOWN, n, what);
    }

    public int hush(int n, int what) {
        return bestOfRows(RowSearch.LEAST_KNOWN, n, what);
    }

    private int bestOfRows(int aim, int n, int what) {
        if (untold() || !within(n, 1, ROW_LENGTH) || !within(what, 0, ROW_LENGTH)) {
            return REFUSED;
        }
        if (what > n) {
            return ABSENT;
        }
        layNow();
        search.prepare(aim, n, now);
        search.go(0, course, notes);
        return what == 0 ? search.amount() : search.dishOfFirst(what - 1);
    }

    public int rows(int what) {
        if (untold() || !within(what, 0, ROW_LENGTH)) {
            return NONE;
        }
        layNow();
        trial.begin(told);
        search.prepare(RowSearch.AS_NOTED, ROW_LENGTH, trial);
        search.go(0, course, notes);
        if (what == 0) {
            return search.found;
        }
        return search.found == 0 ? ABSENT : search.dishOfFirst(what - 1);
    }

    public int believed(int what) {
        if (untold() || !within(what, 0, 1)) {
            return NONE;
        }
        int anyKnows = now.knownByAny(-1);
        int best = 0;
        for (int set = 0; set < 1 << MOST_SECRETS; set++) {
            boolean larger = Integer.bitCount(set) > Integer.bitCount(best);
            if (larger && (set & ~anyKnows) == 0 && !told.isTorn(set)) {
                best = set;
            }
        }
        return what == 0 ? best : Integer.bitCount(best);
    }

    public int dropped(int what) {
        if (untold() || !within(what, 0, 1)) {
            return NONE;
        }
        int all = (1 << MOST_SECRETS) - 1;
        int best = all;
        for (int set = 0; set < all; set++) {
            boolean smaller = Integer.bitCount(set) < Integer.bitCount(best);
            if (smaller && !told.isTorn(all & ~set)) {
                best = set;
            }
        }
        return what == 0 ? best : Integer.bitCount(best);
    }

    public int leftOut(int n, int what) {
        if (untold() || !within(n, 1, 40) || !within(what, 0, 2)) {
            return NONE;
        }
        int sat = NONE;
        int known = NONE;
        int which = ABSENT;
        for (int dish = NONE; dish < told.dishes; dish++) {
            if (dish != NONE && !now.onTable(dish)) {
                continue;
            }
            startTrial();
            trial.leaveOut(dish);
            course.passSome(trial, n);
            int sits = Integer.bitCount(trial.sitting);
            int knows = Long.bitCount(trial.knows);
            if (sits > sat || sits == sat && knows > known) {
                sat = sits;
                known = knows;
                which = dish == NONE ? ABSENT : dish;
            }
        }
        if (what == 0) {
            return sat;
        }
        return what == 1 ? known : which;
    }

    public int rests(int one, int other, int n, int what) {
        if (!isGuest(one) || !isGuest(other) || one == other) {
            return NONE;
        }
        if (!within(n, 1, 20) || !within(what, 0, 2)) {
            return NONE;
        }
        fillGains(one, other, n);
        int many = 0;
        int first = NONE;
        for (int two = 0; two < EARS_CHOICES * EARS_CHOICES; two++) {
            if (isRest(two / EARS_CHOICES, two % EARS_CHOICES)) {
                first = many == 0 ? two : first;
                many++;
            }
        }
        if (what == 0) {
            return many;
        }
        if (many == 0) {
            return ABSENT;
        }
        return EARS_STEP * (what == 1 ? first / EARS_CHOICES : first % EARS_CHOICES);
    }

    private void fillGains(int one, int other, int n) {
        draft.take(told);
        course.lay(draft, ruleAt(inForce));
        for (int two = 0; two < EARS_CHOICES * EARS_CHOICES; two++) {
            draft.ears[one & 7] = EARS_STEP * (two / EARS_CHOICES);
            draft.ears[other & 7] = EARS_STEP * (two % EARS_CHOICES);
            trial.take(now);
            course.passSome(trial, n);
            gains[2 * two] = gainOf(one);
            gains[2 * two + 1] = gainOf(other);
        }
    }

    private int gainOf(int guest) {
        return Integer.bitCount(trial.knownBy(guest)) + (trial.sits(guest) ? SITTING_GAIN : 0);
    }

    private boolean isRest(int row, int column) {
        int ofOne = gainAt(row, column, 0);
        int ofOther = gainAt(row, column, 1);
        for (int instead = 0; instead < EARS_CHOICES; instead++) {
            if (gainAt(instead, column, 0) > ofOne || gainAt(row, instead, 1) > ofOther) {
                return false;
            }
        }
        return true;
    }

    private int gainAt(int row, int column, int whose) {
        int index = 2 * (row * EARS_CHOICES + column) + whose;
        return index >= 0 && index < gains.length ? gains[index] : 0;
    }

    public int crumbs(int much, int guest) {
        if (!isGuest(guest) || !within(much, 0, 9999)) {
            return NONE;
        }
        int all = Long.bitCount(now.knows);
        if (all == 0) {
            return 0;
        }
        int left = much;
        int ahead = 0;
        int lost = shareOf(much, guest) % all;
        for (int other = 0; other < told.guests; other++) {
            int share = shareOf(much, other);
            left -= share / all;
            if (share % all > lost || share % all == lost && other < guest) {
                ahead++;
            }
        }
        return shareOf(much, guest) / all + (ahead < left ? 1 : 0);
    }

    private int shareOf(int much, int guest) {
        return much * Integer.bitCount(now.knownBy(guest));
    }

    public int loudest(int n, int what) {
        if (untold() || !within(n, 1, ASKED_MINUTES) || !within(what, 0, 1)) {
            return NONE;
        }
        startTrial();
        int most = 0;
        int when = ABSENT;
        for (int i = 0; i < n; i++) {
            course.pass(trial);
            if (course.loudness > most) {
                most = course.loudness;
                when = trial.minute - 1;
            }
        }
        return what == 0 ? most : when;
    }

    public int note(int n, int guest, int secret, int knows) {
        if (n == NONE) {
            notes.clear();
            return 0;
        }
        if (!within(n, 0, LAST_NOTED) || !isGuest(guest) || !isSecret(secret) || !within(knows, 0, 1)) {
            return ABSENT;
        }
        return notes.add(n, guest, secret, knows) ? notes.kept : ABSENT;
    }

    /** RULES fit from the begin on, whatever was done by hand since. */
    private boolean fitsNotes(int rule) {
        course.lay(told, ruleAt(rule));
        trial.begin(told);
        return course.fits(trial, notes);
    }

    public int ruled(int what) {
        if (untold() || !within(what, 0, 1)) {
            return REFUSED;
        }
        int many = 0;
        int first = ABSENT;
        for (int rule = NONE; rule < ruleCount; rule++) {
            if (fitsNotes(rule)) {
                first = many == 0 ? rule : first;
                many++;
            }
        }
        return what == 0 ? many : first;
    }

    public int look(int n, int what) {
        if (untold() || !within(n, 0, LAST_NOTED) || !within(what, 0, 1)) {
            return NONE;
        }
        int fitting = gatherFitting(n);
        if (fitting == 0 || told.guests == 0) {
            return ABSENT;
        }
        int best = 0;
        int fewest = fitting + 1;
        for (int guest = 0; guest < told.guests; guest++) {
            int most = mostAlike(guest, fitting);
            if (most < fewest) {
                fewest = most;
                best = guest;
            }
        }
        return what == 0 ? best : fewest;
    }

    /** Puts into a row what is KNOWN behind the n-th MINUTE by each RULE that fits the NOTES: how many fit. */
    private int gatherFitting(int n) {
        int fitting = 0;
        for (int rule = NONE; rule < ruleCount; rule++) {
            if (fitsNotes(rule) && fitting < parted.length) {
                trial.begin(told);
                course.passSome(trial, n);
                parted[fitting] = trial.knows;
                fitting++;
            }
        }
        return fitting;
    }

    private int mostAlike(int guest, int fitting) {
        int most = 0;
        for (int i = 0; i < fitting && i < parted.length; i++) {
            int alike = 0;
            for (int j = 0; j < fitting && j < parted.length; j++) {
                if (((parted[i] ^ parted[j]) >>> 8 * guest & 255) == 0) {
                    alike++;
                }
            }
            most = Math.max(most, alike);
        }
        return most;
    }

    public int seed(int x) {
        if (x < 0) {
            return NONE;
        }
        int was = this.x;
        this.x = x;
        return was;
    }

    public int hiccups(int m, int n, int p, int what) {
        if (untold() || !within(m, 1, 10) || !within(n, 1, 60)) {
            return NONE;
        }
        if (!within(p, 0, 100) || !within(what, 0, 1)) {
            return NONE;
        }
        int drawn = x;
        int sum = 0;
        for (int time = 0; time < m; time++) {
            startTrial();
            drawn = hiccupTrial(n, p, drawn);
            sum += what == 0 ? Integer.bitCount(trial.sitting) : Long.bitCount(trial.knows);
        }
        return sum;
    }

    /** The next dinner's DRAWS go on from the x that this answers. */
    private int hiccupTrial(int n, int p, int from) {
        int drawn = from;
        for (int i = 0; i < n; i++) {
            drawn = nextDrawn(drawn);
            if (drawn / 65536 % 100 < p && told.deep > 0) {
                drawn = nextDrawn(drawn);
                trial.bringUp(drawn / 65536 % told.deep);
            }
            course.pass(trial);
        }
        return drawn;
    }

    private static int nextDrawn(int drawn) {
        return (int) ((drawn * 1103515245L + 12345L) & 2147483647L);
    }

    public int count(int what) {
        switch (what) {
            case 0: return told.deep;
            case 1: return told.dishes;
            case 2: return told.guests;
            case 3: return ruleCount;
            case 4: return inForce;
            case 5: return now.minute;
            case 6: return now.table;
            case 7: return now.sitting;
            case 8: return Long.bitCount(now.knows);
            case 9: return now.offered;
            case 10: return notes.kept;
            case 11: return past.kept;
            case 12: return x;
            case 13: return taped;
            default: return NONE;
        }
    }

    private Image imageAt(int k) {
        return k >= 0 && k < images.length ? images[k] : null;
    }

    public int image(int k) {
        Image image = imageAt(k);
        if (image == null) {
            return NONE;
        }
        image.made = true;
        image.told.take(told);
        image.evening.take(now);
        image.notes.take(notes);
        image.inForce = inForce;
        image.x = x;
        return now.minute;
    }

    public int back(int k) {
        Image image = imageAt(k);
        if (image == null || !image.made) {
            return NONE;
        }
        told.take(image.told);
        now.take(image.evening);
        notes.take(image.notes);
        inForce = image.inForce;
        x = image.x;
        past.clear();
        return now.minute;
    }

    /** What the text of a DINNER tells; DEEP 0 is no DINNER. Rows have eight, so that a number masked by 7 always fits. */
    private static final class Dinner {
        int deep;
        int dishes;
        int guests;
        final int[] loud = new int[8];
        final int[] says = new int[8];
        final int[] ears = new int[8];
        final int[] clash = new int[8];

        void clear() {
            deep = 0;
            dishes = 0;
            guests = 0;
            for (int secret = 0; secret < MOST_SECRETS; secret++) {
                clash[secret] = 0;
            }
        }

        void take(Dinner other) {
            deep = other.deep;
            dishes = other.dishes;
            guests = other.guests;
            for (int i = 0; i < 8; i++) {
                loud[i] = other.loud[i];
                says[i] = other.says[i];
                ears[i] = other.ears[i];
                clash[i] = other.clash[i];
            }
        }

        void addDish(int loudness, int secret) {
            loud[dishes & 7] = loudness;
            says[dishes & 7] = secret;
            dishes++;
        }

        void addGuest(int hears) {
            ears[guests & 7] = hears;
            guests++;
        }

        void addClash(int one, int other) {
            clash[one & 7] |= 1 << other;
            clash[other & 7] |= 1 << one;
        }

        boolean isTorn(int secrets) {
            int rest = secrets;
            for (int secret = 0; secret < MOST_SECRETS && rest != 0; secret++) {
                if ((rest & 1) != 0 && (clash[secret] & secrets) != 0) {
                    return true;
                }
                rest >>= 1;
            }
            return false;
        }
    }

    /** How a dinner stands. All of it is in numbers, so that a copy makes no object. */
    private static final class Evening {
        int minute;
        int offered = NONE;
        int table;
        int sitting;
        /** Four bits a PLACE: 1 and the DISH, 0 if there is none. */
        int gullet;
        /** Eight bits a GUEST. */
        long knows;

        void begin(Dinner dinner) {
            minute = 0;
            offered = NONE;
            table = (1 << dinner.dishes) - 1;
            sitting = (1 << dinner.guests) - 1;
            gullet = 0;
            knows = 0;
        }

        void take(Evening other) {
            minute = other.minute;
            offered = other.offered;
            table = other.table;
            sitting = other.sitting;
            gullet = other.gullet;
            knows = other.knows;
        }

        boolean onTable(int dish) {
            return (table >> dish & 1) != 0;
        }

        boolean sits(int guest) {
            return (sitting >> guest & 1) != 0;
        }

        int knownBy(int guest) {
            return (int) (knows >>> 8 * guest) & 255;
        }

        int knownByAny(int guests) {
            int known = 0;
            for (int guest = 0; guest < MOST_GUESTS; guest++) {
                if ((guests >> guest & 1) != 0) {
                    known |= knownBy(guest);
                }
            }
            return known;
        }

        void learn(int guest, int secrets) {
            knows |= (long) secrets << 8 * guest;
        }

        void forget(int guest) {
            knows &= ~(255L << 8 * guest);
        }

        int dishIn(int place) {
            return (gullet >> 4 * place & 15) - 1;
        }

        int placeOf(int dish) {
            for (int place = 0; place < MOST_DEEP; place++) {
                if (dishIn(place) == dish) {
                    return place;
                }
            }
            return ABSENT;
        }

        int dishesInThroat() {
            int many = 0;
            int rest = gullet;
            for (int place = 0; place < MOST_DEEP; place++) {
                many += (rest & 15) == 0 ? 0 : 1;
                rest >>= 4;
            }
            return many;
        }

        int topDish() {
            int place = Integer.numberOfTrailingZeros(gullet) / 4;
            return place < MOST_DEEP ? (gullet >> 4 * place & 15) - 1 : NONE;
        }

        void leaveOut(int dish) {
            if (dish != NONE) {
                table &= ~(1 << dish);
                offered = offered == dish ? NONE : offered;
            }
        }

        void bringUp(int place) {
            int dish = dishIn(place);
            if (dish != NONE) {
                gullet &= ~(15 << 4 * place);
                table |= 1 << dish;
            }
        }

        int knownBySitting() {
            int many = 0;
            for (int guest = 0; guest < MOST_GUESTS; guest++) {
                many += sits(guest) ? Integer.bitCount(knownBy(guest)) : 0;
            }
            return many;
        }
    }

    /** How MINUTES pass by a DINNER and a RULE, and what SPOKE in the last of them. */
    private static final class Course {
        private Dinner dinner = new Dinner();
        private Rule rule;
        private final long[] words = new long[Rule.WORDS];
        private final long[] stack = new long[Rule.STACK];
        int speaking;
        int saying;
        int loudness;
        /** Behind a MINUTE: would each further one be as that was? */
        private boolean still;

        void lay(Dinner ofDishes, Rule inForce) {
            dinner = ofDishes;
            rule = inForce;
        }

        void pass(Evening evening) {
            boolean wasEmpty = evening.gullet == 0;
            int sat = evening.sitting;
            int dish = evening.offered == NONE ? choice(evening) : evening.offered;
            passEating(evening, dish);
            still = wasEmpty && dish == NONE && sat == evening.sitting && !waitsForMinute(evening);
        }

        private boolean waitsForMinute(Evening evening) {
            return evening.table != 0 && rule != null && rule.asksMinute;
        }

        /** A MINUTE in which he eats a DISH that is on the table, or NONE. */
        void passEating(Evening evening, int dish) {
            evening.offered = NONE;
            if (dish != NONE) {
                evening.table &= ~(1 << dish);
                evening.gullet |= dish + 1;
            }
            speak(evening);
            hear(evening);
            evening.gullet = (evening.gullet << 4) & ((1 << 4 * dinner.deep) - 1);
            evening.minute++;
        }

        /** All but the number of its MINUTE is then as n MINUTES later. */
        void passSome(Evening evening, int minutes) {
            for (int i = 0; i < minutes; i++) {
                pass(evening);
                if (still) {
                    return;
                }
            }
        }

        private int choice(Evening evening) {
            if (evening.table == 0) {
                return NONE;
            }
            if (rule == null) {
                return Integer.numberOfTrailingZeros(evening.table);
            }
            fillWords(evening);
            int union = evening.knownByAny(evening.sitting);
            int best = NONE;
            long most = 0;
            for (int dish = 0; dish < MOST_DISHES; dish++) {
                if (evening.onTable(dish)) {
                    fillWordsOfDish(evening, dish, union);
                    long worth = rule.worth(words, stack);
                    if (worth > most) {
                        most = worth;
                        best = dish;
                    }
                }
            }
            return best;
        }

        private void fillWords(Evening evening) {
            int top = evening.topDish();
            words[Rule.LEFT] = Integer.bitCount(evening.table);
            words[Rule.THROAT] = evening.dishesInThroat();
            words[Rule.TOP] = top == NONE ? 0 : dinner.loud[top & 7];
            words[Rule.SITTING] = Integer.bitCount(evening.sitting);
            words[Rule.MINUTE] = evening.minute;
        }

        private void fillWordsOfDish(Evening evening, int dish, int union) {
            int secret = dinner.says[dish & 7];
            int known = 0;
            for (int guest = 0; guest < MOST_GUESTS; guest++) {
                if (evening.sits(guest)) {
                    known += evening.knownBy(guest) >> secret & 1;
                }
            }
            words[Rule.DISH] = dish;
            words[Rule.LOUD] = dinner.loud[dish & 7];
            words[Rule.SAYS] = secret;
            words[Rule.KNOWN] = known;
            words[Rule.CLASHES] = Integer.bitCount(dinner.clash[secret & 7] & union);
        }

        private void speak(Evening evening) {
            loudness = 0;
            speaking = 0;
            saying = 0;
            for (int place = 0; place < MOST_DEEP; place++) {
                int dish = evening.dishIn(place);
                int sound = dish == NONE ? 0 : dinner.loud[dish & 7] - place;
                if (sound > loudness) {
                    loudness = sound;
                    speaking = 0;
                    saying = 0;
                }
                if (sound > 0 && sound == loudness) {
                    speaking |= 1 << dish;
                    saying |= 1 << dinner.says[dish & 7];
                }
            }
        }

        private void hear(Evening evening) {
            for (int guest = 0; guest < MOST_GUESTS; guest++) {
                if (evening.sits(guest)) {
                    if (dinner.ears[guest] <= loudness) {
                        evening.learn(guest, saying);
                    }
                    if (dinner.isTorn(evening.knownBy(guest))) {
                        evening.sitting &= ~(1 << guest);
                    }
                }
            }
        }

        /** Goes on with an evening that went on from the begin: is it, from its MINUTE on, as the NOTES say? */
        boolean fits(Evening evening, Notes notes) {
            int last = notes.last();
            still = false;
            for (int i = 0; i <= LAST_NOTED; i++) {
                if (still || evening.minute >= last) {
                    return notes.hold(evening, evening.minute, last);
                }
                if (!notes.hold(evening, evening.minute, evening.minute)) {
                    return false;
                }
                pass(evening);
            }
            return true;
        }
    }

    /** A RULE as steps over a stack: a VALUE is put there, a sign takes two and puts one. */
    private static final class Rule {
        static final int WORDS = 10;
        static final int DISH = 0;
        static final int LOUD = 1;
        static final int SAYS = 2;
        static final int KNOWN = 3;
        static final int CLASHES = 4;
        static final int LEFT = 5;
        static final int THROAT = 6;
        static final int TOP = 7;
        static final int SITTING = 8;
        static final int MINUTE = 9;
        static final int ADD = 10;
        static final int SUBTRACT = 11;
        static final int MULTIPLY = 12;
        static final int DIVIDE = 13;
        static final int REST = 14;
        static final int LESS = 15;
        static final int LESS_OR_SAME = 16;
        static final int SAME = 17;
        static final int MORE_OR_SAME = 18;
        static final int MORE = 19;
        static final int AND = 20;
        static final int OR = 21;
        static final int NOT = 22;
        /** Ends a CLAUSE without a TEST: its SUM is the answer. */
        static final int ANSWER = 23;
        /** Ends a CLAUSE with a TEST: its SUM is the answer if the TEST, which lies above it, holds. */
        static final int ANSWER_IF = 24;
        /** From here on: a NUMBER. */
        static final int NUMBERS = 100;
        /** Eleven levels of brackets hold two each, a SUM and a FACT five at most; a power of two, so that a mask fits. */
        static final int STACK = 32;

        /** Each step stems from a byte of its own, so there are no more than bytes. */
        private final int[] code = new int[MOST_BYTES];
        private int steps;
        boolean asksMinute;

        void clear() {
            steps = 0;
            asksMinute = false;
        }

        void put(int step) {
            if (steps >= 0 && steps < code.length) {
                code[steps] = step;
                steps++;
                asksMinute = asksMinute || step == MINUTE;
            }
        }

        long worth(long[] words, long[] stack) {
            if (words.length < WORDS || stack.length < STACK) {
                return 0;
            }
            int top = 0;
            for (int i = 0; i < steps && i < code.length; i++) {
                int step = code[i];
                int last = (top - 1) & 31;
                int ahead = (top - 2) & 31;
                if (step >= NUMBERS) {
                    stack[top & 31] = step - NUMBERS;
                    top++;
                } else if (step >= 0 && step < WORDS) {
                    stack[top & 31] = words[step];
                    top++;
                } else if (step == NOT) {
                    stack[last] = stack[last] == 0 ? 1 : 0;
                } else if (step == ANSWER) {
                    return stack[last];
                } else if (step == ANSWER_IF) {
                    if (stack[last] != 0) {
                        return stack[ahead];
                    }
                    top = 0;
                } else {
                    stack[ahead] = joined(step, stack[ahead], stack[last]);
                    top--;
                }
            }
            return 0;
        }

        private static long joined(int step, long one, long other) {
            switch (step) {
                case ADD: return one + other;
                case SUBTRACT: return one - other;
                case MULTIPLY: return one * other;
                case DIVIDE: return other == 0 ? 0 : one / other;
                case REST: return other == 0 ? 0 : one % other;
                case LESS: return one < other ? 1 : 0;
                case LESS_OR_SAME: return one <= other ? 1 : 0;
                case SAME: return one == other ? 1 : 0;
                case MORE_OR_SAME: return one >= other ? 1 : 0;
                case MORE: return one > other ? 1 : 0;
                case AND: return one & other;
                default: return one | other;
            }
        }
    }

    /** Goes along a text and keeps its first FAULT. */
    private static final class Reader {
        static final int END = -1;
        static final int UNFIT = 0;
        static final int BAD_NUMBER = 1;
        static final int TOO_DEEP = 2;
        static final int TOO_MANY_VALUES = 3;
        static final int TOO_MANY_CLAUSES = 4;
        private static final int MOST_DIGITS = 5;

        private int[] text = new int[0];
        private int length;
        int place;
        int fault;

        void open(int[] bytes, int many) {
            text = bytes;
            length = Math.min(many, bytes.length);
            place = 0;
            fault = 0;
        }

        private int byteAt(int where) {
            return where >= 0 && where < length && where < text.length ? text[where] : END;
        }

        void blame(int where, int kind) {
            if (fault == 0) {
                fault = 1 + 8 * where + kind;
            }
        }

        /** The next byte that is no blank, or END; the place is there then. */
        int sign() {
            for (int i = 0; i < MOST_BYTES && byteAt(place) == ' '; i++) {
                place++;
            }
            return byteAt(place);
        }

        /** A sign that stands right behind another one. */
        boolean takes(int sign) {
            boolean fits = byteAt(place) == sign;
            place += fits ? 1 : 0;
            return fits;
        }

        /** Which of some names, each with a blank behind it, the WORD at the place is; NONE: none of these, or no WORD. */
        int wordAmong(String names) {
            int which = 0;
            int letters = 0;
            boolean same = true;
            for (int i = 0; i < names.length(); i++) {
                char letter = names.charAt(i);
                if (letter != ' ') {
                    same = same && byteAt(place + letters) == letter;
                    letters++;
                } else if (same && !isLetter(byteAt(place + letters))) {
                    return which;
                } else {
                    which++;
                    letters = 0;
                    same = true;
                }
            }
            return NONE;
        }

        void skipWord() {
            for (int i = 0; i < MOST_BYTES && isLetter(byteAt(place)); i++) {
                place++;
            }
        }

        private static boolean isLetter(int sign) {
            return sign >= 'a' && sign <= 'z';
        }

        static boolean isDigit(int sign) {
            return sign >= '0' && sign <= '9';
        }

        /** The NUMBER at the place, blamed if it is not within these, or the one that it must not be. */
        int number(int least, int most, int but) {
            if (!isDigit(byteAt(place))) {
                blame(place, UNFIT);
                return 0;
            }
            int first = place;
            int value = 0;
            for (int i = 0; i < MOST_BYTES && isDigit(byteAt(place)); i++) {
                value = i < MOST_DIGITS ? 10 * value + byteAt(place) - '0' : value;
                place++;
            }
            if (place - first > MOST_DIGITS || value < least || value > most || value == but) {
                blame(first, BAD_NUMBER);
            }
            return value;
        }

        /** Behind a CLAUSE: does another one follow? */
        boolean goesOn() {
            int sign = sign();
            if (fault != 0 || sign == END) {
                return false;
            }
            if (sign != ';') {
                blame(place, UNFIT);
                return false;
            }
            place++;
            return true;
        }
    }

    /** Reads the text of a DINNER. */
    private static final class DinnerReader {
        private static final int MOST_CLAUSES = 40;
        private static final String CLAUSES = "dinner dish guest clash ";
        private static final int DINNER = 0;
        private static final int DISH = 1;
        private static final int GUEST = 2;

        private final Reader reader = new Reader();

        /** Its FAULT, 0 if there is none. */
        int read(int[] bytes, int many, Dinner into) {
            reader.open(bytes, many);
            into.clear();
            for (int clause = 0; clause <= MOST_CLAUSES; clause++) {
                reader.sign();
                int word = reader.wordAmong(CLAUSES);
                if (word == NONE) {
                    reader.blame(reader.place, Reader.UNFIT);
                } else if (clause == MOST_CLAUSES || !mayStand(word, clause, into)) {
                    reader.blame(reader.place, Reader.TOO_MANY_CLAUSES);
                } else {
                    reader.skipWord();
                    readNumbers(word, into);
                }
                if (!reader.goesOn()) {
                    break;
                }
            }
            return reader.fault;
        }

        private static boolean mayStand(int word, int clause, Dinner into) {
            if ((word == DINNER) != (clause == 0)) {
                return false;
            }
            if (word == DISH) {
                return into.dishes < MOST_DISHES;
            }
            return word != GUEST || into.guests < MOST_GUESTS;
        }

        /** A FAULT leaves a draft that nobody reads, so what comes behind it may go in. */
        private void readNumbers(int word, Dinner into) {
            if (word == DINNER) {
                into.deep = nextNumber(1, MOST_DEEP, NONE);
            } else if (word == DISH) {
                int loudness = nextNumber(0, 20, NONE);
                into.addDish(loudness, nextNumber(0, MOST_SECRETS - 1, NONE));
            } else if (word == GUEST) {
                into.addGuest(nextNumber(0, 20, NONE));
            } else {
                int one = nextNumber(0, MOST_SECRETS - 1, NONE);
                into.addClash(one, nextNumber(0, MOST_SECRETS - 1, one));
            }
        }

        private int nextNumber(int least, int most, int but) {
            reader.sign();
            return reader.number(least, most, but);
        }
    }

    /** Reads the text of a RULE into steps. */
    private static final class RuleReader {
        private static final int MOST_CLAUSES = 12;
        private static final int MOST_DEPTH = 10;
        private static final int MOST_VALUES = 60;
        private static final int MOST_NUMBER = 99999;
        private static final String VALUE_WORDS = "dish loud says known clashes left throat top sitting minute ";

        private final Reader reader = new Reader();
        private Rule rule = new Rule();
        private int values;

        /** Its FAULT, 0 if there is none. */
        int read(int[] bytes, int many, Rule into) {
            reader.open(bytes, many);
            rule = into;
            rule.clear();
            values = 0;
            for (int clause = 0; clause <= MOST_CLAUSES; clause++) {
                reader.sign();
                if (reader.wordAmong("eat ") == NONE) {
                    reader.blame(reader.place, Reader.UNFIT);
                } else if (clause == MOST_CLAUSES) {
                    reader.blame(reader.place, Reader.TOO_MANY_CLAUSES);
                } else {
                    reader.skipWord();
                    readSum();
                    reader.sign();
                    boolean hasTest = reader.fault == 0 && reader.wordAmong("if ") != NONE;
                    if (hasTest) {
                        reader.skipWord();
                        readTest(0);
                    }
                    rule.put(hasTest ? Rule.ANSWER_IF : Rule.ANSWER);
                }
                if (!reader.goesOn()) {
                    break;
                }
            }
            return reader.fault;
        }

        /** An 'or' waits till the PART behind it has ended, as 'and' binds closer. */
        private void readTest(int depth) {
            boolean orWaits = false;
            readFact(depth);
            for (int i = 0; i < MOST_BYTES && reader.fault == 0; i++) {
                reader.sign();
                int word = reader.wordAmong("and or ");
                if (word == NONE) {
                    break;
                }
                reader.skipWord();
                if (word == 1 && orWaits) {
                    rule.put(Rule.OR);
                }
                readFact(depth);
                if (word == 0) {
                    rule.put(Rule.AND);
                } else {
                    orWaits = true;
                }
            }
            if (orWaits) {
                rule.put(Rule.OR);
            }
        }

        private void readFact(int depth) {
            boolean opens = reader.sign() == '[';
            boolean isNot = reader.wordAmong("not ") != NONE;
            if ((opens || isNot) && depth >= MOST_DEPTH) {
                reader.blame(reader.place, Reader.TOO_DEEP);
            } else if (isNot) {
                reader.skipWord();
                readFact(depth + 1);
                rule.put(Rule.NOT);
            } else if (opens) {
                reader.place++;
                readTest(depth + 1);
                closeBracket();
            } else {
                readSum();
                int step = readSign();
                if (reader.fault == 0) {
                    readSum();
                    rule.put(step);
                }
            }
        }

        private void closeBracket() {
            if (reader.sign() == ']') {
                reader.place++;
            } else {
                reader.blame(reader.place, Reader.UNFIT);
            }
        }

        private int readSign() {
            int sign = reader.sign();
            if (sign != '<' && sign != '=' && sign != '>') {
                reader.blame(reader.place, Reader.UNFIT);
                return NONE;
            }
            countValue(reader.place);
            reader.place++;
            if (sign == '<') {
                return reader.takes('=') ? Rule.LESS_OR_SAME : Rule.LESS;
            }
            if (sign == '>') {
                return reader.takes('=') ? Rule.MORE_OR_SAME : Rule.MORE;
            }
            return Rule.SAME;
        }

        /** A + or - waits till the TERM behind it has ended, as * / and % bind closer. */
        private void readSum() {
            int waiting = NONE;
            readValue();
            for (int i = 0; i < MOST_BYTES && reader.fault == 0; i++) {
                int step = stepOf(reader.sign());
                if (step == NONE) {
                    break;
                }
                reader.place++;
                boolean ofSum = step == Rule.ADD || step == Rule.SUBTRACT;
                if (ofSum && waiting != NONE) {
                    rule.put(waiting);
                }
                readValue();
                if (ofSum) {
                    waiting = step;
                } else {
                    rule.put(step);
                }
            }
            if (waiting != NONE) {
                rule.put(waiting);
            }
        }

        private static int stepOf(int sign) {
            switch (sign) {
                case '+': return Rule.ADD;
                case '-': return Rule.SUBTRACT;
                case '*': return Rule.MULTIPLY;
                case '/': return Rule.DIVIDE;
                case '%': return Rule.REST;
                default: return NONE;
            }
        }

        private void readValue() {
            reader.sign();
            int word = reader.wordAmong(VALUE_WORDS);
            int first = reader.place;
            if (word != NONE) {
                reader.skipWord();
                rule.put(word);
            } else {
                rule.put(Rule.NUMBERS + reader.number(0, MOST_NUMBER, NONE));
            }
            countValue(first);
        }

        private void countValue(int where) {
            values++;
            if (values > MOST_VALUES) {
                reader.blame(where, Reader.TOO_MANY_VALUES);
            }
        }
    }

    /** What was noted: behind which MINUTE a GUEST KNEW a SECRET or did not. */
    private static final class Notes {
        int kept;
        private final int[] when = new int[MOST_NOTES];
        private final int[] who = new int[MOST_NOTES];
        private final int[] secret = new int[MOST_NOTES];
        private final int[] knew = new int[MOST_NOTES];

        void clear() {
            kept = 0;
        }

        boolean add(int n, int guest, int ofSecret, int knows) {
            if (kept < 0 || kept >= MOST_NOTES) {
                return false;
            }
            when[kept] = n;
            who[kept] = guest;
            secret[kept] = ofSecret;
            knew[kept] = knows;
            kept++;
            return true;
        }

        void take(Notes other) {
            kept = other.kept;
            for (int i = 0; i < MOST_NOTES; i++) {
                when[i] = other.when[i];
                who[i] = other.who[i];
                secret[i] = other.secret[i];
                knew[i] = other.knew[i];
            }
        }

        /** Behind which MINUTE the last is; 0 without any. */
        int last() {
            int last = 0;
            for (int i = 0; i < kept && i < MOST_NOTES; i++) {
                last = Math.max(last, when[i]);
            }
            return last;
        }

        /** Are those of MINUTES from the first to the last so in an evening? */
        boolean hold(Evening evening, int first, int last) {
            for (int i = 0; i < kept && i < MOST_NOTES; i++) {
                boolean asked = when[i] >= first && when[i] <= last;
                if (asked && (evening.knownBy(who[i]) >> secret[i] & 1) != knew[i]) {
                    return false;
                }
            }
            return true;
        }
    }

    /** What can be UNDONE: how it was ahead of each of the last ACTS, in a ring. */
    private static final class Past {
        private final Evening[] ring = new Evening[MOST_UNDONE];
        private int next;
        int kept;

        Past() {
            for (int i = 0; i < MOST_UNDONE; i++) {
                ring[i] = new Evening();
            }
        }

        void clear() {
            kept = 0;
        }

        private Evening slot(int index) {
            return index >= 0 && index < ring.length ? ring[index] : null;
        }

        void keep(Evening evening) {
            Evening slot = slot(next);
            if (slot != null) {
                slot.take(evening);
            }
            next = (next + 1) % MOST_UNDONE;
            kept = Math.min(kept + 1, MOST_UNDONE);
        }

        boolean giveBack(Evening into) {
            if (kept == 0) {
                return false;
            }
            next = (next + MOST_UNDONE - 1) % MOST_UNDONE;
            kept--;
            Evening slot = slot(next);
            if (slot != null) {
                into.take(slot);
            }
            return true;
        }
    }

    /** All but the TAPE and the RULES, as it was. */
    private static final class Image {
        boolean made;
        final Dinner told = new Dinner();
        final Evening evening = new Evening();
        final Notes notes = new Notes();
        int inForce = NONE;
        int x;
    }

    /** Goes through rows of DISHES, the first ones first, and keeps the first of the best. */
    private static final class RowSearch {
        static final int MOST_KNOWN = 0;
        static final int LEAST_KNOWN = 1;
        static final int AS_NOTED = 2;

        private final Evening[] steps = new Evening[ROW_LENGTH + 1];
        private final int[] row = new int[ROW_LENGTH];
        private final int[] first = new int[ROW_LENGTH];
        private int aim;
        private int length;
        private int best;
        int found;

        RowSearch() {
            for (int i = 0; i <= ROW_LENGTH; i++) {
                steps[i] = new Evening();
            }
        }

        void prepare(int forAim, int minutes, Evening from) {
            aim = forAim;
            length = minutes;
            best = 0;
            found = 0;
            Evening start = stepAt(0);
            if (start != null) {
                start.take(from);
            }
        }

        private Evening stepAt(int depth) {
            return depth >= 0 && depth < steps.length ? steps[depth] : null;
        }

        int amount() {
            return aim == LEAST_KNOWN ? -best : best;
        }

        int dishOfFirst(int minute) {
            return minute >= 0 && minute < first.length ? first[minute] : NONE;
        }

        void go(int depth, Course course, Notes notes) {
            Evening here = stepAt(depth);
            if (here == null) {
                return;
            }
            Evening next = stepAt(depth + 1);
            if (depth >= length || next == null) {
                if (aim != AS_NOTED || course.fits(here, notes)) {
                    weigh(here);
                }
                return;
            }
            if (aim == AS_NOTED && !notes.hold(here, depth, depth)) {
                return;
            }
            for (int dish = mayEatNone(here) ? NONE : 0; dish < MOST_DISHES; dish++) {
                if ((dish == NONE || here.onTable(dish)) && depth < row.length) {
                    row[depth] = dish;
                    next.take(here);
                    course.passEating(next, dish);
                    go(depth + 1, course, notes);
                }
            }
        }

        private boolean mayEatNone(Evening here) {
            return aim == MOST_KNOWN || aim == LEAST_KNOWN && here.table == 0;
        }

        private void weigh(Evening evening) {
            int worth = worthOf(evening);
            if (found == 0 || worth > best) {
                best = worth;
                for (int i = 0; i < ROW_LENGTH; i++) {
                    first[i] = row[i];
                }
            }
            found++;
        }

        /** Rows that fit the NOTES are worth the same, so that the first of them stays. */
        private int worthOf(Evening evening) {
            if (aim == MOST_KNOWN) {
                return evening.knownBySitting();
            }
            return aim == LEAST_KNOWN ? -Long.bitCount(evening.knows) : 0;
        }
    }
}
