/** Which line was put in later: a parish register told as a text, and what its inks give away. */
public final class GallRegister {
    public static final int NONE = -1;

    private static final int NO_SUCH = -2;
    private static final int BELOW_ZERO = -3;
    private static final int FAULTY = -4;
    private static final int NOT_NOW = -5;
    private static final int NOTHING_KEPT = -6;
    private static final int BEYOND = -7;
    private static final int UNLIKE_WIDTHS = -8;
    private static final int NO_GAME = -1000;

    private static final int MOST_YEARS = 20;
    private static final int MOST_INKS = 4;
    private static final int MOST_PAGES = 4;
    private static final int MOST_ENTRIES = 7;
    private static final int MOST_ACTS = 30;
    private static final int MOST_BLEACHINGS = 9;
    private static final int MOST_SHADE = 60;
    private static final int MOST_BYTES = 700;
    private static final int MOST_CELLS = 60;
    private static final int MOST_SEED = 2_000_000_000;
    private static final int MOST_RUNS = 20;
    private static final int CHANCE_YEARS = 8;
    private static final int SLOTS = 4;
    private static final int IMAGES = 3;
    private static final int LAWS = 4;
    private static final int FACING_LAW = 2;
    private static final int CLEAR_FROM = 5;
    private static final int NEVER = 99;

    private final Reader reader = new Reader();
    private final Book draft = new Book();
    private final Book now = new Book();
    private final Book trial = new Book();
    private final Course course = new Course();
    private final Course guess = new Course();
    private final Book[] images = new Book[IMAGES];
    private final boolean[] kept = new boolean[IMAGES];
    private final Row[] rows = new Row[SLOTS];
    private final int[][] supposed = new int[MOST_YEARS + 1][MOST_YEARS + 1];
    private final int[] tally = new int[MOST_SHADE + 1];
    private final int[] gains = new int[4];
    private final int[] otherGains = new int[4];
    private int faultKind = 0;
    private int faultPlace = NONE;

    public GallRegister() {
        for (int k = 0; k < IMAGES; k++) {
            images[k] = new Book();
        }
        for (int slot = 0; slot < SLOTS; slot++) {
            rows[slot] = new Row();
        }
    }

    // ---- the TAPE and the BOOK ----

    public int feed(int a, int b, int c, int d, int e) {
        if (reader.length + 20 > MOST_BYTES) {
            return NONE;
        }
        reader.addFour(a);
        reader.addFour(b);
        reader.addFour(c);
        reader.addFour(d);
        reader.addFour(e);
        return reader.length;
    }

    public int end(int n) {
        if (n < 0 || n > reader.length) {
            return NONE;
        }
        reader.length = n;
        return n;
    }

    public int book() {
        draft.empty();
        reader.readBook(draft);
        reader.length = 0;
        faultKind = reader.fault;
        faultPlace = reader.place;
        if (faultKind != 0) {
            return FAULTY;
        }
        now.copyFrom(draft);
        course.follow(now, 0);
        return now.lines;
    }

    public int fault(int what) {
        if (what == 0) {
            return faultKind;
        }
        return what == 1 ? faultPlace : NONE;
    }

    // ---- what the BOOK tells ----

    public int ink(int ink, int what) {
        if (noInk(ink)) {
            return NO_SUCH;
        }
        switch (what) {
            case 0: return now.rise[ink];
            case 1: return now.top[ink];
            case 2: return now.fade[ink];
            default: return NO_SUCH;
        }
    }

    public int page(int page) {
        return noPage(page) ? NO_SUCH : now.damp[page];
    }

    public int entry(int entry, int what) {
        if (noEntry(entry)) {
            return NO_SUCH;
        }
        switch (what) {
            case 0: return now.page[entry];
            case 1: return now.ink[entry];
            case 2: return now.wrote[entry];
            case 3: return now.says[entry];
            case 4: return now.place[entry];
            default: return NO_SUCH;
        }
    }

    public int on(int page) {
        return noPage(page) ? NO_SUCH : bitsOn(page);
    }

    public int faces(int entry) {
        return noEntry(entry) ? NO_SUCH : now.facing[entry];
    }

    public int there(int year) {
        return noYear(year) ? NO_SUCH : bitsThere(year);
    }

    public int put() {
        if (noBook()) {
            return NO_SUCH;
        }
        int bits = 0;
        for (int entry = 0; entry < now.entries; entry++) {
            if (earlierBehind(entry)) {
                bits |= 1 << entry;
            }
        }
        return bits;
    }

    public int lies() {
        if (noBook()) {
            return NO_SUCH;
        }
        int bits = 0;
        for (int entry = 0; entry < now.entries; entry++) {
            if (now.says[entry] != now.wrote[entry]) {
                bits |= 1 << entry;
            }
        }
        return bits;
    }

    public int uses(int ink) {
        if (noInk(ink)) {
            return NO_SUCH;
        }
        int bits = 0;
        for (int entry = 0; entry < now.entries; entry++) {
            if (now.ink[entry] == ink) {
                bits |= 1 << entry;
            }
        }
        return bits;
    }

    public int newest(int year) {
        if (noYear(year)) {
            return NO_SUCH;
        }
        int best = NONE;
        for (int entry = 0; entry < now.entries; entry++) {
            if (now.isThere(entry, year) && (best == NONE || now.wrote[entry] > now.wrote[best])) {
                best = entry;
            }
        }
        return best;
    }

    public int oldest(int year) {
        if (noYear(year)) {
            return NO_SUCH;
        }
        int best = NONE;
        for (int entry = 0; entry < now.entries; entry++) {
            if (now.isThere(entry, year) && (best == NONE || now.wrote[entry] < now.wrote[best])) {
                best = entry;
            }
        }
        return best;
    }

    public int age(int entry, int year) {
        if (noEntry(entry) || noYear(year)) {
            return NO_SUCH;
        }
        return now.isThere(entry, year) ? year - now.wrote[entry] : NONE;
    }

    public int order(int page) {
        if (noPage(page)) {
            return NO_SUCH;
        }
        for (int entry = 0; entry < now.entries; entry++) {
            if (now.page[entry] == page && earlierBehind(entry)) {
                return 0;
            }
        }
        return 1;
    }

    // ---- SHADES of one ENTRY ----

    public int shade(int entry, int year) {
        return noEntry(entry) || noYear(year) ? NO_SUCH : course.shade[year][entry];
    }

    public int peak(int entry) {
        return noEntry(entry) ? NO_SUCH : course.shade[ripeYear(entry)][entry];
    }

    public int ripe(int entry) {
        return noEntry(entry) ? NO_SUCH : ripeYear(entry);
    }

    public int blank(int entry) {
        if (noEntry(entry)) {
            return NO_SUCH;
        }
        for (int year = now.wrote[entry]; year <= now.years; year++) {
            if (course.shade[year][entry] == 0) {
                return year;
            }
        }
        return NONE;
    }

    public int steady(int entry) {
        if (noEntry(entry)) {
            return NO_SUCH;
        }
        int most = 0;
        int run = 0;
        for (int year = now.wrote[entry]; year <= now.years; year++) {
            boolean goesOn = run > 0 && course.shade[year][entry] == course.shade[year - 1][entry];
            run = goesOn ? run + 1 : 1;
            most = Math.max(most, run);
        }
        return most;
    }

    public int falls(int entry) {
        if (noEntry(entry)) {
            return NO_SUCH;
        }
        int count = 0;
        for (int year = 1; year <= now.years; year++) {
            if (course.shade[year][entry] < course.shade[year - 1][entry]) {
                count++;
            }
        }
        return count;
    }

    public int lasts(int entry) {
        if (noEntry(entry)) {
            return NO_SUCH;
        }
        int count = 0;
        for (int year = 0; year <= now.years; year++) {
            if (course.shade[year][entry] >= CLEAR_FROM) {
                count++;
            }
        }
        return count;
    }

    // ---- SHADES of two ENTRIES ----

    public int cross(int entry, int other) {
        if (noEntry(entry) || noEntry(other)) {
            return NO_SUCH;
        }
        for (int year = 0; year <= now.years; year++) {
            if (bothThere(entry, other, year) && compared(entry, other, year) > 0) {
                return year;
            }
        }
        return NONE;
    }

    public int swaps(int entry, int other) {
        if (noEntry(entry) || noEntry(other)) {
            return NO_SUCH;
        }
        int count = 0;
        for (int year = 1; year <= now.years; year++) {
            if (bothThere(entry, other, year - 1)
                    && compared(entry, other, year) != compared(entry, other, year - 1)) {
                count++;
            }
        }
        return count;
    }

    public int match(int entry, int other) {
        if (noEntry(entry) || noEntry(other)) {
            return NO_SUCH;
        }
        int count = 0;
        for (int year = 0; year <= now.years; year++) {
            if (bothThere(entry, other, year) && compared(entry, other, year) == 0) {
                count++;
            }
        }
        return count;
    }

    // ---- SHADES of one YEAR ----

    public int clear(int year) {
        return noYear(year) ? NO_SUCH : clearBits(course, year);
    }

    public int all(int year) {
        return noYear(year) ? NO_SUCH : course.total(now, year);
    }

    public int darkest(int year) {
        return noYear(year) ? NO_SUCH : darkestOf(bitsThere(year), year);
    }

    public int palest(int year) {
        return noYear(year) ? NO_SUCH : palestOf(bitsThere(year), year);
    }

    public int sorts(int year) {
        return noYear(year) ? NO_SUCH : unlikeShades(bitsThere(year), year);
    }

    public int alike(int year) {
        if (noYear(year)) {
            return NO_SUCH;
        }
        int count = 0;
        for (int entry = 0; entry < now.entries; entry++) {
            for (int other = entry + 1; other < now.entries; other++) {
                if (bothThere(entry, other, year) && compared(entry, other, year) == 0) {
                    count++;
                }
            }
        }
        return count;
    }

    public int rising(int year) {
        return noYear(year) ? NO_SUCH : course.rises[year];
    }

    public int paling(int year) {
        if (noYear(year)) {
            return NO_SUCH;
        }
        if (year == 0) {
            return 0;
        }
        int bits = 0;
        for (int entry = 0; entry < now.entries; entry++) {
            if (course.shade[year][entry] < course.shade[year - 1][entry]) {
                bits |= 1 << entry;
            }
        }
        return bits;
    }

    public int bold(int page, int year) {
        return noPage(page) || noYear(year) ? NO_SUCH : darkestOf(bitsThere(year) & bitsOn(page), year);
    }

    public int sum(int page, int year) {
        if (noPage(page) || noYear(year)) {
            return NO_SUCH;
        }
        int total = 0;
        for (int entry = 0; entry < now.entries; entry++) {
            if (now.page[entry] == page) {
                total += course.shade[year][entry];
            }
        }
        return total;
    }

    public int spread(int year) {
        if (noYear(year)) {
            return NO_SUCH;
        }
        int dark = darkestOf(bitsThere(year), year);
        int pale = palestOf(bitsThere(year), year);
        return dark == NONE || pale == NONE ? 0 : course.shade[year][dark] - course.shade[year][pale];
    }

    public int peaks() {
        if (noBook()) {
            return NO_SUCH;
        }
        int best = 0;
        for (int year = 1; year <= now.years; year++) {
            if (course.total(now, year) > course.total(now, best)) {
                best = year;
            }
        }
        return best;
    }

    // ---- which PASS ----

    public int passes(int entry, int year) {
        return noEntry(entry) || noYear(year) ? NO_SUCH : passingInks(entry, year);
    }

    public int suspects(int year) {
        if (noYear(year)) {
            return NO_SUCH;
        }
        int bits = 0;
        for (int entry = 0; entry < now.entries; entry++) {
            if (now.isThere(entry, year) && passingInks(entry, year) == 0) {
                bits |= 1 << entry;
            }
        }
        return bits;
    }

    public int betrayed(int entry) {
        if (noEntry(entry)) {
            return NO_SUCH;
        }
        for (int year = now.wrote[entry]; year <= now.years; year++) {
            if (passingInks(entry, year) == 0) {
                return year;
            }
        }
        return NONE;
    }

    public int honest(int year) {
        if (noYear(year)) {
            return NO_SUCH;
        }
        int bits = 0;
        for (int entry = 0; entry < now.entries; entry++) {
            if (now.isThere(entry, year) && passesBy(entry, now.ink[entry], year)) {
                bits |= 1 << entry;
            }
        }
        return bits;
    }

    public int ages(int ink, int page, int n, int year) {
        if (noInk(ink) || noPage(page) || noYear(year) || n < 1 || n > MOST_SHADE) {
            return NO_SUCH;
        }
        int bits = 0;
        for (int wrote = 0; wrote <= year; wrote++) {
            if (now.lone(ink, page, wrote, year) == n) {
                bits |= 1 << wrote;
            }
        }
        return bits;
    }

    // ---- what was SEEN ----

    public int dates(int slot, int entry) {
        int refused = noEntry(entry) ? NO_SUCH : refusedSeen(slot);
        return refused != 0 ? refused : Integer.bitCount(fittingYears(slot, entry));
    }

    public int first(int slot, int entry) {
        int refused = noEntry(entry) ? NO_SUCH : refusedSeen(slot);
        if (refused != 0) {
            return refused;
        }
        int fitting = fittingYears(slot, entry);
        for (int year = 0; year <= now.years; year++) {
            if (hasBit(fitting, year)) {
                return year;
            }
        }
        return NONE;
    }

    public int last(int slot, int entry) {
        int refused = noEntry(entry) ? NO_SUCH : refusedSeen(slot);
        if (refused != 0) {
            return refused;
        }
        int fitting = fittingYears(slot, entry);
        for (int year = now.years; year >= 0; year--) {
            if (hasBit(fitting, year)) {
                return year;
            }
        }
        return NONE;
    }

    public int ask(int slot, int entry) {
        int refused = noEntry(entry) ? NO_SUCH : refusedSeen(slot);
        return refused != 0 ? refused : bestQuestion(fittingYears(slot, entry));
    }

    public int leaves(int slot, int entry) {
        int refused = noEntry(entry) ? NO_SUCH : refusedSeen(slot);
        if (refused != 0) {
            return refused;
        }
        int fitting = fittingYears(slot, entry);
        int question = bestQuestion(fitting);
        return question == NONE ? Integer.bitCount(fitting) : leftAtWorst(fitting, question);
    }

    public int kinds(int slot, int entry) {
        int refused = noEntry(entry) ? NO_SUCH : refusedSeen(slot);
        if (refused != 0) {
            return refused;
        }
        int bits = 0;
        trial.copyFrom(now);
        for (int ink = 0; ink < now.inks; ink++) {
            trial.ink[entry] = ink;
            guess.follow(trial, 0);
            if (fits(rows[slot])) {
                bits |= 1 << ink;
            }
        }
        return bits;
    }

    public int laws(int slot) {
        int refused = refusedSeen(slot);
        if (refused != 0) {
            return refused;
        }
        int bits = 0;
        trial.copyFrom(now);
        for (int law = 0; law < LAWS; law++) {
            trial.law = law;
            guess.follow(trial, 0);
            if (fits(rows[slot])) {
                bits |= 1 << law;
            }
        }
        return bits;
    }

    // ---- what would be ----

    public int by(int law) {
        return noBook() || law < 0 || law >= LAWS ? NO_SUCH : totalByLaw(law);
    }

    public int law() {
        if (noBook()) {
            return NO_SUCH;
        }
        int best = 0;
        int most = totalByLaw(0);
        for (int law = 1; law < LAWS; law++) {
            int total = totalByLaw(law);
            if (total > most) {
                best = law;
                most = total;
            }
        }
        return best;
    }

    public int later(int entry, int n) {
        if (noEntry(entry) || n < 0 || n > MOST_YEARS) {
            return NO_SUCH;
        }
        trial.copyFrom(now);
        trial.wrote[entry] = now.wrote[entry] + n;
        guess.follow(trial, 0);
        return guess.shade[now.years][entry];
    }

    public int other(int entry, int ink) {
        if (noEntry(entry) || noInk(ink)) {
            return NO_SUCH;
        }
        trial.copyFrom(now);
        trial.ink[entry] = ink;
        guess.follow(trial, 0);
        return guess.shade[now.years][entry];
    }

    public int hide(int entry, int year) {
        if (noEntry(entry) || noYear(year)) {
            return NO_SUCH;
        }
        trial.copyFrom(now);
        for (int times = 0; times <= MOST_BLEACHINGS; times++) {
            guess.follow(trial, 0);
            if (guess.shade[now.years][entry] < CLEAR_FROM) {
                return times;
            }
            trial.acts.add(entry, NONE, year);
        }
        return NONE;
    }

    public int save(int entry) {
        if (noEntry(entry)) {
            return NO_SUCH;
        }
        trial.copyFrom(now);
        for (int year = now.wrote[entry]; year <= now.years; year++) {
            trial.acts.done = now.acts.done;
            trial.acts.add(entry, now.ink[entry], year);
            guess.follow(trial, 0);
            if (guess.shade[now.years][entry] >= CLEAR_FROM) {
                return year;
            }
        }
        return NONE;
    }

    public int heavy() {
        if (noBook()) {
            return NO_SUCH;
        }
        int best = NONE;
        int least = course.total(now, now.years);
        trial.copyFrom(now);
        for (int entry = 0; entry < now.entries; entry++) {
            trial.wrote[entry] = NEVER;
            guess.follow(trial, 0);
            trial.wrote[entry] = now.wrote[entry];
            int total = guess.total(now, now.years);
            if (total < least) {
                best = entry;
                least = total;
            }
        }
        return best;
    }

    // ---- WORTH, the GAME, CHANCE ----

    public int worth(int set) {
        if (noBook() || set < 0 || set >= 1 << now.entries) {
            return NO_SUCH;
        }
        return unlikeShades(set & bitsThere(now.years), now.years);
    }

    public int share(int entry, int what) {
        if (noEntry(entry) || noPart(what)) {
            return NO_SUCH;
        }
        // Of those with one SHADE only the first in the order adds to what the set is WORTH.
        int alike = 0;
        for (int other = 0; other < now.entries; other++) {
            if (bothThere(entry, other, now.years) && compared(entry, other, now.years) == 0) {
                alike++;
            }
        }
        if (what == 0) {
            return alike == 0 ? 0 : 1;
        }
        return Math.max(alike, 1);
    }

    public int rests(int page, int other) {
        if (noGame(page, other)) {
            return NO_SUCH;
        }
        for (int choice = 0; choice < 4; choice++) {
            turn(page, other, choice);
            gains[choice] = gain(page, choice & 1);
            otherGains[choice] = gain(other, choice >> 1);
        }
        int bits = 0;
        for (int choice = 0; choice < 4; choice++) {
            if (gains[choice] >= gains[choice ^ 1] && otherGains[choice] >= otherGains[choice ^ 2]) {
                bits |= 1 << choice;
            }
        }
        return bits;
    }

    public int gets(int page, int other, int turned, int otherTurned) {
        if (noGame(page, other) || noPart(turned) || noPart(otherTurned)) {
            return NO_GAME;
        }
        turn(page, other, turned | otherTurned << 1);
        return gain(page, turned);
    }

    public int chance(int entry, int year, int n, int what) {
        if (noEntry(entry) || noChanceYear(year) || n < 0 || n > MOST_SHADE || noPart(what)) {
            return NO_SUCH;
        }
        guess.pass(now, 0, false);
        return (int) part(weighed(now, guess, 0, year, entry, n), year, what);
    }

    public long mean(int year, int what) {
        if (noChanceYear(year) || noPart(what)) {
            return NO_SUCH;
        }
        guess.pass(now, 0, false);
        return part(weighed(now, guess, 0, year, NONE, 0), year, what);
    }

    public int drawn(int seed, int what) {
        if (noBook() || noSeed(seed) || noPart(what)) {
            return NO_SUCH;
        }
        int wet = wetYears(seed);
        if (what == 0) {
            return wet;
        }
        guess.follow(now, wet);
        return clearBits(guess, now.years);
    }

    public int luck(int seed, int n, int entry) {
        if (noEntry(entry) || noSeed(seed) || n < 1 || n > MOST_RUNS) {
            return NO_SUCH;
        }
        int count = 0;
        for (int i = 0; i < n; i++) {
            guess.follow(now, wetYears((long) seed + i));
            if (guess.shade[now.years][entry] >= CLEAR_FROM) {
                count++;
            }
        }
        return count;
    }

    // ---- acts, and what is kept ----

    public int retraces(int entry, int ink, int year) {
        if (noEntry(entry) || noInk(ink) || noYear(year)) {
            return NO_SUCH;
        }
        return act(entry, ink, year);
    }

    public int bleaches(int entry, int year) {
        if (noEntry(entry) || noYear(year)) {
            return NO_SUCH;
        }
        return act(entry, NONE, year);
    }

    public int undo() {
        if (noBook()) {
            return NO_SUCH;
        }
        if (now.acts.done == 0) {
            return NOT_NOW;
        }
        now.acts.done--;
        course.follow(now, 0);
        return now.acts.done;
    }

    public int anew() {
        if (noBook()) {
            return NO_SUCH;
        }
        int done = now.acts.done;
        now.acts.done = 0;
        course.follow(now, 0);
        return done;
    }

    public int rate(int entry, int n) {
        if (noEntry(entry) || n < 0 || n > MOST_YEARS) {
            return NO_SUCH;
        }
        if (now.acts.done > 0) {
            return NOT_NOW;
        }
        int said = now.says[entry];
        now.says[entry] = n;
        return said;
    }

    public int count(int what) {
        switch (what) {
            case 0: return now.years;
            case 1: return now.law;
            case 2: return now.odds;
            case 3: return now.inks;
            case 4: return now.pages;
            case 5: return now.entries;
            case 6: return now.acts.done;
            case 7: return now.lines;
            case 8: return reader.length;
            case 9: return toldRows();
            default: return NONE;
        }
    }

    public int image(int k) {
        if (k < 0 || k >= IMAGES) {
            return NO_SUCH;
        }
        images[k].copyFrom(now);
        kept[k] = true;
        return 0;
    }

    public int back(int k) {
        if (k < 0 || k >= IMAGES) {
            return NO_SUCH;
        }
        if (!kept[k]) {
            return NOTHING_KEPT;
        }
        now.copyFrom(images[k]);
        course.follow(now, 0);
        return 0;
    }

    // ---- SLOTS ----

    public int row(int slot, int width, int n) {
        if (noSlot(slot) || width < 0 || width > 3 || n > MOST_CELLS) {
            return NO_SUCH;
        }
        if (n < 0) {
            return BELOW_ZERO;
        }
        rows[slot].begin(width, n);
        return 0;
    }

    public int write(int slot, int i, long v) {
        if (noSlot(slot)) {
            return NO_SUCH;
        }
        if (!rows[slot].told) {
            return NOTHING_KEPT;
        }
        if (i < 0 || i >= rows[slot].size) {
            return BEYOND;
        }
        rows[slot].keep(i, v);
        return 0;
    }

    public int paste(int slot, int i, int to, int k, int n) {
        if (noSlot(slot) || noSlot(to)) {
            return NO_SUCH;
        }
        Row from = rows[slot];
        Row into = rows[to];
        if (!from.told || !into.told) {
            return NOTHING_KEPT;
        }
        if (from.width != into.width) {
            return UNLIKE_WIDTHS;
        }
        if (!from.holds(i, n) || !into.holds(k, n)) {
            return BEYOND;
        }
        System.arraycopy(from.cells, i, into.cells, k, n);
        return 0;
    }

    // ---- what is none such ----

    private boolean noBook() {
        return now.lines == 0;
    }

    private boolean noYear(int year) {
        return noBook() || year < 0 || year > now.years;
    }

    private boolean noChanceYear(int year) {
        return noYear(year) || year < 1 || year > CHANCE_YEARS;
    }

    private boolean noInk(int ink) {
        return ink < 0 || ink >= now.inks;
    }

    private boolean noPage(int page) {
        return page < 0 || page >= now.pages;
    }

    private boolean noEntry(int entry) {
        return entry < 0 || entry >= now.entries;
    }

    private boolean noGame(int page, int other) {
        return noPage(page) || noPage(other) || page == other;
    }

    private boolean noSlot(int slot) {
        return slot < 0 || slot >= SLOTS;
    }

    private boolean noSeed(int seed) {
        return seed < 0 || seed > MOST_SEED;
    }

    /** Of what is 0 or 1: above or below, turned or not, the first or the second of two answers. */
    private boolean noPart(int what) {
        return what != 0 && what != 1;
    }

    // ---- sets of ENTRIES as bits ----

    private static boolean hasBit(int bits, int i) {
        return (bits >> i & 1) == 1;
    }

    private int bitsOn(int page) {
        int bits = 0;
        for (int entry = 0; entry < now.entries; entry++) {
            if (now.page[entry] == page) {
                bits |= 1 << entry;
            }
        }
        return bits;
    }

    private int bitsThere(int year) {
        int bits = 0;
        for (int entry = 0; entry < now.entries; entry++) {
            if (now.isThere(entry, year)) {
                bits |= 1 << entry;
            }
        }
        return bits;
    }

    private int clearBits(Course of, int year) {
        int bits = 0;
        for (int entry = 0; entry < now.entries; entry++) {
            if (of.shade[year][entry] >= CLEAR_FROM) {
                bits |= 1 << entry;
            }
        }
        return bits;
    }

    private int darkestOf(int set, int year) {
        int best = NONE;
        for (int entry = 0; entry < now.entries; entry++) {
            if (hasBit(set, entry)
                    && (best == NONE || course.shade[year][entry] > course.shade[year][best])) {
                best = entry;
            }
        }
        return best;
    }

    private int palestOf(int set, int year) {
        int best = NONE;
        for (int entry = 0; entry < now.entries; entry++) {
            if (hasBit(set, entry)
                    && (best == NONE || course.shade[year][entry] < course.shade[year][best])) {
                best = entry;
            }
        }
        return best;
    }

    private int unlikeShades(int set, int year) {
        long met = 0;
        int count = 0;
        for (int entry = 0; entry < now.entries; entry++) {
            long mark = 1L << course.shade[year][entry];
            if (hasBit(set, entry) && (met & mark) == 0) {
                met |= mark;
                count++;
            }
        }
        return count;
    }

    // ---- SHADES as they stand ----

    private int act(int entry, int ink, int year) {
        if (now.acts.done >= MOST_ACTS) {
            return NOT_NOW;
        }
        now.acts.add(entry, ink, year);
        course.follow(now, 0);
        return course.shade[now.years][entry];
    }

    private boolean earlierBehind(int entry) {
        for (int other = 0; other < now.entries; other++) {
            if (now.page[other] == now.page[entry] && now.place[other] > now.place[entry]
                    && now.wrote[other] < now.wrote[entry]) {
                return true;
            }
        }
        return false;
    }

    private int ripeYear(int entry) {
        int best = 0;
        for (int year = 1; year <= now.years; year++) {
            if (course.shade[year][entry] > course.shade[best][entry]) {
                best = year;
            }
        }
        return best;
    }

    private boolean bothThere(int entry, int other, int year) {
        return now.isThere(entry, year) && now.isThere(other, year);
    }

    private int compared(int entry, int other, int year) {
        return Integer.compare(course.shade[year][entry], course.shade[year][other]);
    }

    private boolean passesBy(int entry, int ink, int year) {
        return course.shade[year][entry] == now.lone(ink, now.page[entry], now.says[entry], year);
    }

    private int passingInks(int entry, int year) {
        int bits = 0;
        for (int ink = 0; ink < now.inks; ink++) {
            if (passesBy(entry, ink, year)) {
                bits |= 1 << ink;
            }
        }
        return bits;
    }

    private int totalByLaw(int law) {
        trial.copyFrom(now);
        trial.law = law;
        guess.follow(trial, 0);
        return guess.total(trial, now.years);
    }

    // ---- what was SEEN ----

    private int refusedSeen(int slot) {
        if (noSlot(slot) || noBook()) {
            return NO_SUCH;
        }
        if (!rows[slot].told) {
            return NOTHING_KEPT;
        }
        return isSound(rows[slot]) ? 0 : NO_SUCH;
    }

    private boolean isSound(Row row) {
        if (row.size % 3 != 0) {
            return false;
        }
        for (int i = 0; i + 2 < row.size; i += 3) {
            if (row.cells[i] < 0 || row.cells[i] >= now.entries
                    || row.cells[i + 1] < 0 || row.cells[i + 1] > now.years
                    || row.cells[i + 2] < 0 || row.cells[i + 2] > MOST_SHADE) {
                return false;
            }
        }
        return true;
    }

    /** Whether the guessed course is as a sound row tells. */
    private boolean fits(Row row) {
        for (int i = 0; i + 2 < row.size; i += 3) {
            if (guess.shade[(int) row.cells[i + 1]][(int) row.cells[i]] != row.cells[i + 2]) {
                return false;
            }
        }
        return true;
    }

    /** The YEARS as bits; what the ENTRY's SHADES are by each of them is left in supposed. */
    private int fittingYears(int slot, int entry) {
        int bits = 0;
        trial.copyFrom(now);
        for (int wrote = 0; wrote <= now.years; wrote++) {
            trial.wrote[entry] = wrote;
            guess.follow(trial, 0);
            for (int year = 0; year <= now.years; year++) {
                supposed[wrote][year] = guess.shade[year][entry];
            }
            if (fits(rows[slot])) {
                bits |= 1 << wrote;
            }
        }
        return bits;
    }

    private int bestQuestion(int fitting) {
        int best = NONE;
        int fewest = Integer.bitCount(fitting);
        for (int year = 0; year <= now.years; year++) {
            int left = leftAtWorst(fitting, year);
            if (left < fewest) {
                best = year;
                fewest = left;
            }
        }
        return best;
    }

    private int leftAtWorst(int fitting, int year) {
        for (int shade = 0; shade <= MOST_SHADE; shade++) {
            tally[shade] = 0;
        }
        int most = 0;
        for (int wrote = 0; wrote <= now.years; wrote++) {
            if (hasBit(fitting, wrote)) {
                int shade = supposed[wrote][year];
                tally[shade]++;
                most = Math.max(most, tally[shade]);
            }
        }
        return most;
    }

    // ---- the GAME ----

    /** Bit 0 of a choice: the first page is turned; bit 1: the other one is. */
    private void turn(int page, int other, int choice) {
        trial.copyFrom(now);
        trial.damp[page] ^= choice & 1;
        trial.damp[other] ^= choice >> 1;
        guess.follow(trial, 0);
    }

    private int gain(int page, int turned) {
        return 3 * Integer.bitCount(clearBits(guess, now.years) & bitsOn(page)) - turned;
    }

    // ---- CHANCE ----

    /**
     * What is asked at the end, weighed by the odds of all that can come from a YEAR on: 1 if the
     * ENTRY's SHADE is n or more, or, without an ENTRY, SHADES of all together. The end is at most
     * CHANCE_YEARS, and so is the depth.
     */
    private static long weighed(Book book, Course course, int year, int end, int entry, int n) {
        if (year >= end || year >= CHANCE_YEARS) {
            if (entry == NONE) {
                return course.total(book, year);
            }
            return course.shade[year][entry] >= n ? 1 : 0;
        }
        long sum = 0;
        if (book.odds > 0) {
            course.pass(book, year + 1, true);
            sum += book.odds * weighed(book, course, year + 1, end, entry, n);
        }
        if (book.odds < 10) {
            course.pass(book, year + 1, false);
            sum += (10 - book.odds) * weighed(book, course, year + 1, end, entry, n);
        }
        return sum;
    }

    /** Of weight in ten to the power of years, in lowest terms: above (what 0) or below (what 1). */
    private static long part(long weight, int years, int what) {
        long above = weight;
        long below = 1;
        for (int year = 0; year < years; year++) {
            below *= 10;
        }
        for (int i = 0; i < years; i++) {
            if (above % 2 == 0 && below % 2 == 0) {
                above /= 2;
                below /= 2;
            }
            if (above % 5 == 0 && below % 5 == 0) {
                above /= 5;
                below /= 5;
            }
        }
        return what == 0 ? above : below;
    }

    /** YEARS from which it is WET, as bits. */
    private int wetYears(long seed) {
        int bits = 0;
        long x = seed;
        for (int year = 0; year < now.years; year++) {
            x = (1103515245L * x + 12345L) % 2147483648L;
            if (x / 65536 % 10 < now.odds) {
                bits |= 1 << year;
            }
        }
        return bits;
    }

    private int toldRows() {
        int count = 0;
        for (int slot = 0; slot < SLOTS; slot++) {
            if (rows[slot].told) {
                count++;
            }
        }
        return count;
    }

    /** A SLOT's row of numbers, or nothing. */
    private static final class Row {
        final long[] cells = new long[MOST_CELLS];
        boolean told = false;
        int width = 0;
        int size = 0;

        void begin(int newWidth, int newSize) {
            told = true;
            width = newWidth;
            size = newSize;
            for (int i = 0; i < MOST_CELLS; i++) {
                cells[i] = 0;
            }
        }

        void keep(int i, long v) {
            int unused = 64 - (8 << width);
            cells[i] = v << unused >> unused;
        }

        boolean holds(int from, int n) {
            return from >= 0 && n >= 0 && from <= size && n <= size - from;
        }
    }

    /** Acts in the order in which they came; there is room for what hide() tries beyond them. */
    private static final class Acts {
        static final int ROOM = MOST_ACTS + MOST_BLEACHINGS + 1;

        final int[] entry = new int[ROOM];
        final int[] ink = new int[ROOM];
        final int[] year = new int[ROOM];
        int done = 0;

        /** Retraced with an ink, or bleached (NONE). */
        void add(int actEntry, int actInk, int actYear) {
            if (done < ROOM) {
                entry[done] = actEntry;
                ink[done] = actInk;
                year[done] = actYear;
                done++;
            }
        }

        void copyFrom(Acts from) {
            done = from.done;
            System.arraycopy(from.entry, 0, entry, 0, from.done);
            System.arraycopy(from.ink, 0, ink, 0, from.done);
            System.arraycopy(from.year, 0, year, 0, from.done);
        }
    }

    /** A BOOK as told, and the acts done on it. */
    private static final class Book {
        int lines = 0;
        int years = 0;
        int law = 0;
        int odds = 0;
        int inks = 0;
        int pages = 0;
        int entries = 0;
        final int[] rise = new int[MOST_INKS];
        final int[] top = new int[MOST_INKS];
        final int[] fade = new int[MOST_INKS];
        final int[] damp = new int[MOST_PAGES];
        final int[] page = new int[MOST_ENTRIES];
        final int[] ink = new int[MOST_ENTRIES];
        final int[] wrote = new int[MOST_ENTRIES];
        final int[] says = new int[MOST_ENTRIES];
        final int[] place = new int[MOST_ENTRIES];
        final int[] facing = new int[MOST_ENTRIES];
        final Acts acts = new Acts();

        void empty() {
            lines = 0;
            years = 0;
            law = 0;
            odds = 0;
            inks = 0;
            pages = 0;
            entries = 0;
            acts.done = 0;
        }

        void copyFrom(Book from) {
            lines = from.lines;
            years = from.years;
            law = from.law;
            odds = from.odds;
            inks = from.inks;
            pages = from.pages;
            entries = from.entries;
            System.arraycopy(from.rise, 0, rise, 0, MOST_INKS);
            System.arraycopy(from.top, 0, top, 0, MOST_INKS);
            System.arraycopy(from.fade, 0, fade, 0, MOST_INKS);
            System.arraycopy(from.damp, 0, damp, 0, MOST_PAGES);
            System.arraycopy(from.page, 0, page, 0, MOST_ENTRIES);
            System.arraycopy(from.ink, 0, ink, 0, MOST_ENTRIES);
            System.arraycopy(from.wrote, 0, wrote, 0, MOST_ENTRIES);
            System.arraycopy(from.says, 0, says, 0, MOST_ENTRIES);
            System.arraycopy(from.place, 0, place, 0, MOST_ENTRIES);
            System.arraycopy(from.facing, 0, facing, 0, MOST_ENTRIES);
            acts.copyFrom(from.acts);
        }

        void addInk(int inkRise, int inkTop, int inkFade) {
            if (inks < MOST_INKS) {
                rise[inks] = inkRise;
                top[inks] = inkTop;
                fade[inks] = inkFade;
                inks++;
            }
        }

        void addPage(boolean isDamp) {
            if (pages < MOST_PAGES) {
                damp[pages] = isDamp ? 1 : 0;
                pages++;
            }
        }

        void addEntry(int entryPage, int entryInk, int yearWritten, int yearSaid) {
            if (entries >= MOST_ENTRIES) {
                return;
            }
            page[entries] = entryPage;
            ink[entries] = entryInk;
            wrote[entries] = yearWritten;
            says[entries] = yearSaid;
            placeLast();
            entries++;
        }

        /** The PLACE of the entry that is just told, and which one it FACES. */
        private void placeLast() {
            int placed = 0;
            for (int other = 0; other < entries; other++) {
                if (page[other] == page[entries]) {
                    placed++;
                }
            }
            place[entries] = placed;
            facing[entries] = NONE;
            for (int other = 0; other < entries; other++) {
                if (page[other] == (page[entries] ^ 1) && place[other] == placed) {
                    facing[entries] = other;
                    facing[other] = entries;
                }
            }
        }

        boolean isThere(int entry, int year) {
            return wrote[entry] <= year;
        }

        int risen(int from, int withInk) {
            return Math.min(from + rise[withInk], top[withInk]);
        }

        /** By how much a SHADE that does not rise is less, going to a YEAR. */
        int loss(int withInk, int onPage, int year, boolean wet) {
            if (law == 3 && year % 2 == 1) {
                return 0;
            }
            int less = fade[withInk];
            if (law == 1 && damp[onPage] == 1) {
                less *= 2;
            }
            return wet ? less + 2 : less;
        }

        /** The SHADE that one alone would have, without acts and not WET. */
        int lone(int withInk, int onPage, int written, int year) {
            if (year < written) {
                return 0;
            }
            int shade = risen(0, withInk);
            boolean goesUp = shade < top[withInk];
            for (int at = written + 1; at <= year; at++) {
                if (goesUp) {
                    shade = risen(shade, withInk);
                    goesUp = shade < top[withInk];
                } else {
                    shade = Math.max(0, shade - loss(withInk, onPage, at, false));
                }
            }
            return shade;
        }
    }

    /** What SHADE each ENTRY has YEAR by YEAR, with which ink, and which rise (as bits). */
    private static final class Course {
        final int[][] shade = new int[MOST_YEARS + 1][MOST_ENTRIES];
        final int[][] ink = new int[MOST_YEARS + 1][MOST_ENTRIES];
        final int[] rises = new int[MOST_YEARS + 1];

        /** All YEARS of the book; wet has bits for YEARS from which it is WET. */
        void follow(Book book, int wet) {
            for (int year = 0; year <= book.years; year++) {
                pass(book, year, year > 0 && hasBit(wet, year - 1));
            }
        }

        /** One YEAR, by the one ahead of it, which must stand already. */
        void pass(Book book, int year, boolean wet) {
            rises[year] = 0;
            for (int entry = 0; entry < book.entries; entry++) {
                if (book.wrote[entry] == year) {
                    inked(book, entry, book.ink[entry], year);
                } else if (book.wrote[entry] < year && year > 0) {
                    goOn(book, entry, year, wet);
                } else {
                    shade[year][entry] = 0;
                }
            }
            if (book.law == FACING_LAW && year > 0) {
                rubOff(book, year);
            }
            for (int i = 0; i < book.acts.done; i++) {
                if (book.acts.year[i] == year && book.isThere(book.acts.entry[i], year)) {
                    perform(book, book.acts.entry[i], book.acts.ink[i], year);
                }
            }
        }

        int total(Book book, int year) {
            int sum = 0;
            for (int entry = 0; entry < book.entries; entry++) {
                sum += shade[year][entry];
            }
            return sum;
        }

        private void inked(Book book, int entry, int withInk, int year) {
            ink[year][entry] = withInk;
            setShade(entry, year, book.risen(0, withInk), book.top[withInk]);
        }

        /** It RISES, if its shade is below top. */
        private void setShade(int entry, int year, int newShade, int top) {
            shade[year][entry] = newShade;
            if (newShade < top) {
                rises[year] |= 1 << entry;
            } else {
                rises[year] &= ~(1 << entry);
            }
        }

        private void goOn(Book book, int entry, int year, boolean wet) {
            int withInk = ink[year - 1][entry];
            int before = shade[year - 1][entry];
            ink[year][entry] = withInk;
            if (hasBit(rises[year - 1], entry)) {
                setShade(entry, year, book.risen(before, withInk), book.top[withInk]);
            } else {
                shade[year][entry] = Math.max(0, before - book.loss(withInk, book.page[entry], year, wet));
            }
        }

        /** LAW 2: both there in the YEAR ahead, and the facing one darker by 10 or more in it. */
        private void rubOff(Book book, int year) {
            for (int entry = 0; entry < book.entries; entry++) {
                int facing = book.facing[entry];
                if (facing != NONE && book.isThere(entry, year - 1) && book.isThere(facing, year - 1)
                        && shade[year - 1][facing] - shade[year - 1][entry] >= 10) {
                    shade[year][entry] = Math.min(MOST_SHADE, shade[year][entry] + 1);
                }
            }
        }

        private void perform(Book book, int entry, int withInk, int year) {
            if (withInk == NONE) {
                shade[year][entry] = Math.max(0, shade[year][entry] - 10);
                rises[year] &= ~(1 << entry);
            } else {
                inked(book, entry, withInk, year);
            }
        }
    }

    /** The TAPE, and the reading of a BOOK from it. */
    private static final class Reader {
        private static final int END = 0;
        private static final int WORD = 1;
        private static final int NUMBER = 2;
        private static final int SIGN = 3;
        private static final int OTHER = 4;

        private static final int MISPLACED = 1;
        private static final int OUT_OF_BOUNDS = 2;
        private static final int TOO_MANY = 3;
        private static final int HUGE = 1000;

        final byte[] tape = new byte[MOST_BYTES];
        int length = 0;
        int fault = 0;
        int place = NONE;
        // The token that is read next: its kind, its bytes, its number.
        private int kind = END;
        private int start = 0;
        private int behind = 0;
        private int value = 0;

        void addFour(int four) {
            for (int shift = 24; shift >= 0; shift -= 8) {
                if (length < MOST_BYTES) {
                    tape[length] = (byte) (four >> shift);
                    length++;
                }
            }
        }

        void readBook(Book book) {
            fault = 0;
            place = NONE;
            behind = 0;
            advance();
            for (int i = 0; i < MOST_BYTES && kind != END && fault == 0; i++) {
                readLine(book);
                if (fault == 0 && kind != SIGN) {
                    blame(MISPLACED);
                }
                if (fault == 0) {
                    book.lines++;
                    advance();
                }
            }
        }

        private void readLine(Book book) {
            if (isWord("book") == (book.lines > 0)) {
                blame(MISPLACED);
            } else if (isWord("book")) {
                readHead(book);
            } else if (isWord("ink")) {
                readInk(book);
            } else if (isWord("page")) {
                readPage(book);
            } else if (isWord("entry")) {
                readEntry(book);
            } else {
                blame(MISPLACED);
            }
        }

        private void readHead(Book book) {
            advance();
            book.years = numberBehind("years", 1, MOST_YEARS);
            book.law = numberBehind("law", 0, LAWS - 1);
            book.odds = numberBehind("odds", 0, 10);
        }

        private void readInk(Book book) {
            if (book.inks >= MOST_INKS) {
                blame(TOO_MANY);
                return;
            }
            advance();
            int rise = numberBehind("rise", 1, 20);
            int top = numberBehind("top", 1, MOST_SHADE);
            int fade = numberBehind("fade", 0, 9);
            if (fault == 0) {
                book.addInk(rise, top, fade);
            }
        }

        private void readPage(Book book) {
            if (book.pages >= MOST_PAGES) {
                blame(TOO_MANY);
                return;
            }
            advance();
            boolean isDamp = isWord("damp");
            if (isDamp) {
                advance();
            }
            book.addPage(isDamp);
        }

        private void readEntry(Book book) {
            if (book.entries >= MOST_ENTRIES) {
                blame(TOO_MANY);
                return;
            }
            advance();
            int page = numberBehind("on", 0, book.pages - 1);
            int ink = numberBehind("in", 0, book.inks - 1);
            int wrote = numberBehind("wrote", 0, MOST_YEARS);
            int says = numberBehind("says", 0, MOST_YEARS);
            if (fault == 0) {
                book.addEntry(page, ink, wrote, says);
            }
        }

        /** Reads on over a word and a number; 0, and stays, behind the first fault. */
        private int numberBehind(String word, int least, int most) {
            if (fault == 0 && !isWord(word)) {
                blame(MISPLACED);
            }
            if (fault != 0) {
                return 0;
            }
            advance();
            if (kind != NUMBER) {
                blame(MISPLACED);
                return 0;
            }
            if (value < least || value > most) {
                blame(OUT_OF_BOUNDS);
                return 0;
            }
            int told = value;
            advance();
            return told;
        }

        private void blame(int what) {
            if (fault == 0) {
                fault = what;
                place = start;
            }
        }

        private boolean isWord(String word) {
            if (kind != WORD || behind - start != word.length()) {
                return false;
            }
            for (int i = 0; i < word.length(); i++) {
                if (byteAt(start + i) != word.charAt(i)) {
                    return false;
                }
            }
            return true;
        }

        /** The byte there, or NONE beyond the end. */
        private int byteAt(int at) {
            return at >= 0 && at < length && at < MOST_BYTES ? tape[at] & 255 : NONE;
        }

        private void advance() {
            start = behind;
            while (start < length && (byteAt(start) == 32 || byteAt(start) == 10)) {
                start++;
            }
            behind = start;
            if (start >= length) {
                kind = END;
            } else if (isLetter(byteAt(start))) {
                kind = WORD;
                while (behind < length && isLetter(byteAt(behind))) {
                    behind++;
                }
            } else if (isDigit(byteAt(start))) {
                kind = NUMBER;
                value = 0;
                while (behind < length && isDigit(byteAt(behind))) {
                    value = Math.min(HUGE, value * 10 + byteAt(behind) - '0');
                    behind++;
                }
            } else {
                kind = byteAt(start) == ';' ? SIGN : OTHER;
                behind = start + 1;
            }
        }

        private static boolean isLetter(int sign) {
            return sign >= 'a' && sign <= 'z';
        }

        private static boolean isDigit(int sign) {
            return sign >= '0' && sign <= '9';
        }
    }
}
