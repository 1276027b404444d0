import java.util.Arrays;
import java.util.Random;

/** Every call that asks, on random books with random acts, against the Model. */
final class ModelTest {
    private static final Due due = new Due("ModelTest");
    private static final int BOOKS = 400;

    private final Random random;
    private final Model m = new Model();
    private GallRegister x;
    private int run;

    private ModelTest(int run) {
        this.run = run;
        random = new Random(run);
    }

    public static void main(String[] args) {
        for (int run = 0; run < BOOKS; run++) {
            new ModelTest(run).check();
        }
        due.close();
    }

    private int upTo(int most) {
        return random.nextInt(most + 1);
    }

    private void is(String call, long got, long want) {
        due.is("book " + run + " " + call, got, want);
    }

    private void check() {
        make();
        x = Due.told(m.text());
        act();
        told();
        fresh();
        byYear();
        byEntry();
        fresh();
        byPair();
        byPage();
        byInk();
        fresh();
        for (int slot = 0; slot < 4; slot++) {
            seen(slot);
        }
        byLaw();
        fresh();
        chances();
        fresh();
        acts();
    }

    /** What was asked has changed nothing; then another register in the same state, since one is good for 512 calls. */
    private void fresh() {
        for (int e = 0; e < m.entries.size(); e++) {
            is("stays " + e, x.shade(e, m.years), m.shade(e, m.years));
        }
        is("acts stay", x.count(6), m.acts.size());
        x = Due.told(m.text());
        for (Model.Act act : m.acts) {
            if (act.ink() < 0) {
                x.bleaches(act.entry(), act.year());
            } else {
                x.retraces(act.entry(), act.ink(), act.year());
            }
        }
    }

    private void make() {
        m.years = 1 + upTo(run % 5 == 0 ? 19 : 7);
        m.law = run % 4;
        m.odds = upTo(10);
        int inks = upTo(4);
        for (int i = 0; i < inks; i++) {
            boolean large = upTo(1) == 0;
            m.inks.add(new Model.Ink(1 + upTo(large ? 19 : 5), 1 + upTo(large ? 59 : 19), upTo(upTo(1) == 0 ? 9 : 3)));
        }
        int pages = upTo(4);
        for (int i = 0; i < pages; i++) {
            m.damp.add(random.nextBoolean());
        }
        int entries = inks == 0 || pages == 0 ? 0 : upTo(7);
        for (int i = 0; i < entries; i++) {
            int wrote = upTo(upTo(7) == 0 ? 20 : Math.min(20, m.years));
            int says = upTo(2) > 0 ? wrote : upTo(20);
            m.entries.add(new Model.Entry(upTo(pages - 1), upTo(inks - 1), wrote, says));
        }
    }

    private void act() {
        int acts = m.entries.isEmpty() ? 0 : upTo(3) * upTo(3) * upTo(3);
        for (int i = 0; i < acts; i++) {
            Model.Act act = new Model.Act(upTo(m.entries.size() - 1), upTo(m.inks.size()) - 1, upTo(m.years));
            m.acts.add(act);
            m.forget();
            int got = act.ink() < 0 ? x.bleaches(act.entry(), act.year()) : x.retraces(act.entry(), act.ink(), act.year());
            is("act " + act, got, m.shade(act.entry(), m.years));
        }
    }

    private void told() {
        int[] counts = {m.years, m.law, m.odds, m.inks.size(), m.damp.size(), m.entries.size(), m.acts.size(),
            1 + m.inks.size() + m.damp.size() + m.entries.size()};
        for (int what = 0; what < counts.length; what++) {
            is("count(" + what + ")", x.count(what), counts[what]);
        }
        is("put()", x.put(), m.put());
        is("lies()", x.lies(), m.lies());
        is("peaks()", x.peaks(), m.peaks());
        is("law()", x.law(), m.mostByLaw());
        is("heavy()", x.heavy(), m.heavy());
        for (int set = 0; set < 1 << m.entries.size(); set++) {
            is("worth(" + set + ")", x.worth(set), m.worth(set));
        }
        is("worth, none such", x.worth(1 << m.entries.size()), -2);
    }

    private void byYear() {
        for (int y = -1; y <= m.years + 1; y++) {
            boolean none = y < 0 || y > m.years;
            is("there " + y, x.there(y), none ? -2 : m.there(y));
            is("clear " + y, x.clear(y), none ? -2 : m.clear(y));
            is("all " + y, x.all(y), none ? -2 : m.all(y));
            is("darkest " + y, x.darkest(y), none ? -2 : m.darkest(y));
            is("palest " + y, x.palest(y), none ? -2 : m.palest(y));
            is("sorts " + y, x.sorts(y), none ? -2 : m.sorts(y));
            is("alike " + y, x.alike(y), none ? -2 : m.alike(y));
            is("rising " + y, x.rising(y), none ? -2 : m.rising(y));
            is("paling " + y, x.paling(y), none ? -2 : m.paling(y));
            is("suspects " + y, x.suspects(y), none ? -2 : m.suspects(y));
            is("honest " + y, x.honest(y), none ? -2 : m.honest(y));
            is("spread " + y, x.spread(y), none ? -2 : m.spread(y));
            is("newest " + y, x.newest(y), none ? -2 : m.newest(y));
            is("oldest " + y, x.oldest(y), none ? -2 : m.oldest(y));
        }
    }

    private void byEntry() {
        for (int e = -1; e <= m.entries.size(); e++) {
            fresh();
            boolean none = e < 0 || e == m.entries.size();
            is("entry " + e, x.entry(e, 4), none ? -2 : m.place(e));
            is("faces " + e, x.faces(e), none ? -2 : m.faces(e));
            is("peak " + e, x.peak(e), none ? -2 : m.peak(e));
            is("ripe " + e, x.ripe(e), none ? -2 : m.ripe(e));
            is("blank " + e, x.blank(e), none ? -2 : m.blank(e));
            is("betrayed " + e, x.betrayed(e), none ? -2 : m.betrayed(e));
            is("steady " + e, x.steady(e), none ? -2 : m.steady(e));
            is("falls " + e, x.falls(e), none ? -2 : m.falls(e));
            is("lasts " + e, x.lasts(e), none ? -2 : m.lasts(e));
            is("save " + e, x.save(e), none ? -2 : m.save(e));
            for (int n = -1; n <= 21; n++) {
                boolean noN = none || n < 0 || n > 20;
                is("later " + e + " " + n, x.later(e, n), noN ? -2 : m.written(e, m.entries.get(e).wrote() + n).shade(e, m.years));
            }
            for (int ink = -1; ink <= m.inks.size(); ink++) {
                boolean noInk = none || ink < 0 || ink == m.inks.size();
                is("other " + e + " " + ink, x.other(e, ink), noInk ? -2 : m.inked(e, ink).shade(e, m.years));
            }
            for (int y = -1; y <= m.years + 1; y++) {
                boolean noYear = none || y < 0 || y > m.years;
                is("shade " + e + " " + y, x.shade(e, y), noYear ? -2 : m.shade(e, y));
                is("passes " + e + " " + y, x.passes(e, y), noYear ? -2 : m.passes(e, y));
                is("age " + e + " " + y, x.age(e, y), noYear ? -2 : m.isThere(e, y) ? y - m.entries.get(e).wrote() : -1);
                is("hide " + e + " " + y, x.hide(e, y), noYear ? -2 : m.hide(e, y));
            }
            if (!none && (m.entries.size() < 7 || run % 10 == 0)) {
                long[] share = m.share(e);
                is("share above " + e, x.share(e, 0), share[0]);
                is("share below " + e, x.share(e, 1), share[1]);
            }
        }
    }

    private void byPair() {
        for (int e = -1; e <= m.entries.size(); e++) {
            for (int o = -1; o <= m.entries.size(); o++) {
                boolean none = e < 0 || e == m.entries.size() || o < 0 || o == m.entries.size();
                is("cross " + e + " " + o, x.cross(e, o), none ? -2 : m.cross(e, o));
                is("swaps " + e + " " + o, x.swaps(e, o), none ? -2 : m.swaps(e, o));
                is("match " + e + " " + o, x.match(e, o), none ? -2 : m.match(e, o));
            }
        }
    }

    private void byPage() {
        for (int p = -1; p <= m.damp.size(); p++) {
            fresh();
            int page = p;
            boolean none = p < 0 || p == m.damp.size();
            is("page " + p, x.page(p), none ? -2 : m.damp.get(p) ? 1 : 0);
            is("on " + p, x.on(p), none ? -2 : m.bits(e -> m.entries.get(e).page() == page));
            is("order " + p, x.order(p), none ? -2 : m.order(p));
            for (int y = -1; y <= m.years + 1; y++) {
                boolean noYear = none || y < 0 || y > m.years;
                is("bold " + p + " " + y, x.bold(p, y), noYear ? -2 : m.bold(p, y));
                is("sum " + p + " " + y, x.sum(p, y), noYear ? -2 : m.sum(p, y));
            }
            for (int o = -1; o <= m.damp.size(); o++) {
                boolean noGame = none || o < 0 || o == m.damp.size() || o == p;
                is("rests " + p + " " + o, x.rests(p, o), noGame ? -2 : m.rests(p, o));
                for (int turned = -1; turned <= 2; turned++) {
                    for (int otherTurned = -1; otherTurned <= 2; otherTurned++) {
                        boolean noChoice = noGame || turned < 0 || turned > 1 || otherTurned < 0 || otherTurned > 1;
                        is("gets " + p + " " + o + " " + turned + " " + otherTurned, x.gets(p, o, turned, otherTurned),
                                noChoice ? -1000 : m.gets(p, o, turned, otherTurned));
                    }
                }
            }
        }
    }

    private void byInk() {
        for (int i = -1; i <= m.inks.size(); i++) {
            fresh();
            int ink = i;
            boolean none = i < 0 || i == m.inks.size();
            is("ink " + i, x.ink(i, 0), none ? -2 : m.inks.get(i).rise());
            is("ink " + i, x.ink(i, 1), none ? -2 : m.inks.get(i).top());
            is("ink " + i, x.ink(i, 2), none ? -2 : m.inks.get(i).fade());
            is("uses " + i, x.uses(i), none ? -2 : m.bits(e -> m.entries.get(e).ink() == ink));
            for (int p = 0; p <= m.damp.size(); p++) {
                for (int n = run % 3; n <= 61; n += 3) {
                    int y = upTo(m.years + 1);
                    boolean noAge = none || p == m.damp.size() || n < 1 || n > 60 || y > m.years;
                    is("ages " + i + " " + p + " " + n + " " + y, x.ages(i, p, n, y), noAge ? -2 : m.ages(i, p, n, y));
                }
            }
        }
    }

    private void seen(int slot) {
        int[] row = new int[m.entries.isEmpty() ? 0 : 3 * upTo(slot)];
        Model like = m;
        if (row.length > 0 && upTo(2) > 0) {
            like = upTo(1) == 0 ? m.written(upTo(m.entries.size() - 1), upTo(m.years))
                    : upTo(1) == 0 ? m.byLaw(upTo(3)) : m.inked(upTo(m.entries.size() - 1), upTo(m.inks.size() - 1));
        }
        for (int i = 0; i < row.length; i += 3) {
            row[i] = upTo(m.entries.size() - 1);
            row[i + 1] = upTo(m.years);
            row[i + 2] = like.shade(row[i], row[i + 1]);
        }
        Due.seen(x, slot, row);
        String of = " " + Arrays.toString(row) + " ";
        is("laws" + of, x.laws(slot), m.laws(row));
        for (int e = 0; e < m.entries.size(); e++) {
            var dates = m.dates(row, e);
            int[] ask = m.ask(row, e);
            is("dates" + of + e, x.dates(slot, e), dates.size());
            is("first" + of + e, x.first(slot, e), dates.isEmpty() ? -1 : dates.get(0));
            is("last" + of + e, x.last(slot, e), dates.isEmpty() ? -1 : dates.get(dates.size() - 1));
            is("ask" + of + e, x.ask(slot, e), ask[0]);
            is("leaves" + of + e, x.leaves(slot, e), ask[1]);
            is("kinds" + of + e, x.kinds(slot, e), m.kinds(row, e));
        }
    }

    private void byLaw() {
        for (int law = -1; law <= 4; law++) {
            is("by " + law, x.by(law), law < 0 || law > 3 ? -2 : m.by(law));
        }
    }

    private void chances() {
        for (int year = -1; year <= 10; year++) {
            boolean none = year < 1 || year > 8 || year > m.years;
            if (!none && year > 5 && run % 7 != 0) {
                continue;
            }
            int y = year;
            long[] mean = none ? null : m.mean(y, wet -> wet.all(y));
            is("mean above " + y, x.mean(y, 0), none ? -2 : mean[0]);
            is("mean below " + y, x.mean(y, 1), none ? -2 : mean[1]);
            for (int i = 0; i < m.entries.size(); i++) {
                int e = i;
                int n = none ? 0 : Math.max(0, m.shade(e, y) - upTo(6));
                long[] chance = none ? null : m.mean(y, wet -> wet.shade(e, y) >= n ? 1 : 0);
                is("chance above " + e + " " + y + " " + n, x.chance(e, y, n, 0), none ? -2 : chance[0]);
                is("chance below " + e + " " + y + " " + n, x.chance(e, y, n, 1), none ? -2 : chance[1]);
            }
        }
        int seed = random.nextInt(2_000_000_001);
        is("drawn " + seed, x.drawn(seed, 0), m.drawn(seed));
        is("drawn clear " + seed, x.drawn(seed, 1), m.wet(m.drawn(seed)).clear(m.years));
        int n = 1 + upTo(19);
        for (int e = 0; e < m.entries.size(); e++) {
            int lucky = 0;
            for (int i = 0; i < n; i++) {
                lucky += m.wet(m.drawn(seed + i)).shade(e, m.years) >= 5 ? 1 : 0;
            }
            is("luck " + seed + " " + n + " " + e, x.luck(seed, n, e), lucky);
        }
    }

    /** Acts are taken back one by one. */
    private void acts() {
        x.image(run % 3);
        while (!m.acts.isEmpty()) {
            m.acts.remove(m.acts.size() - 1);
            m.forget();
            is("undo", x.undo(), m.acts.size());
            for (int e = 0; e < m.entries.size(); e++) {
                int y = upTo(m.years);
                is("behind undo, shade " + e + " " + y, x.shade(e, y), m.shade(e, y));
            }
        }
        is("undo of none", x.undo(), -5);
        x.back(run % 3);
        int acts = x.count(6);
        is("anew", x.anew(), acts);
        for (int e = 0; e < m.entries.size(); e++) {
            is("behind anew, peak " + e, x.peak(e), m.peak(e));
        }
    }
}
