import java.math.BigInteger;
import java.util.ArrayList;
import java.util.Collections;
import java.util.HashMap;
import java.util.HashSet;
import java.util.List;
import java.util.Map;
import java.util.Set;
import java.util.TreeMap;
import java.util.function.IntPredicate;

/** A BOOK and its acts as the document's terms tell them, by plain recursion; slow, and never refuses. */
final class Model {
    record Ink(int rise, int top, int fade) { }

    record Entry(int page, int ink, int wrote, int says) { }

    /** ink is -1 if the ENTRY is BLEACHED. */
    record Act(int entry, int ink, int year) { }

    private record State(int shade, boolean rises, int ink) { }

    int years;
    int law;
    int odds;
    List<Ink> inks = new ArrayList<>();
    List<Boolean> damp = new ArrayList<>();
    List<Entry> entries = new ArrayList<>();
    List<Act> acts = new ArrayList<>();
    Set<Integer> wetFrom = new HashSet<>();
    private final Map<Integer, State> known = new HashMap<>();

    Model copy() {
        Model m = new Model();
        m.years = years;
        m.law = law;
        m.odds = odds;
        m.inks.addAll(inks);
        m.damp.addAll(damp);
        m.entries.addAll(entries);
        m.acts.addAll(acts);
        m.wetFrom.addAll(wetFrom);
        return m;
    }

    /** To be called when something has been changed. */
    void forget() {
        known.clear();
    }

    String text() {
        StringBuilder s = new StringBuilder("book years " + years + " law " + law + " odds " + odds + ";\n");
        inks.forEach(i -> s.append("ink rise " + i.rise + " top " + i.top + " fade " + i.fade + ";"));
        damp.forEach(d -> s.append(d ? "page damp;" : "page;"));
        entries.forEach(e -> s.append("entry on " + e.page + " in " + e.ink + " wrote " + e.wrote + " says " + e.says + ";"));
        return s.toString();
    }

    // ---- II, III, VIII ----

    int place(int e) {
        int n = 0;
        for (int i = 0; i < e; i++) {
            n += entries.get(i).page == entries.get(e).page ? 1 : 0;
        }
        return n;
    }

    int faces(int e) {
        int[] mate = {1, 0, 3, 2};
        for (int i = 0; i < entries.size(); i++) {
            if (entries.get(i).page == mate[entries.get(e).page] && place(i) == place(e)) {
                return i;
            }
        }
        return -1;
    }

    private State fresh(int ink) {
        Ink i = inks.get(ink);
        return i.rise >= i.top ? new State(i.top, false, ink) : new State(i.rise, true, ink);
    }

    /** null: it is not there. */
    private State state(int e, int year) {
        if (year < entries.get(e).wrote) {
            return null;
        }
        State s = known.get(e * 100 + year);
        if (s == null) {
            s = year == entries.get(e).wrote ? fresh(entries.get(e).ink) : gone(e, year);
            for (Act a : acts) {
                if (a.entry == e && a.year == year) {
                    s = a.ink >= 0 ? fresh(a.ink) : new State(Math.max(s.shade - 10, 0), false, s.ink);
                }
            }
            known.put(e * 100 + year, s);
        }
        return s;
    }

    private State gone(int e, int year) {
        State before = state(e, year - 1);
        Ink ink = inks.get(before.ink);
        int shade = before.shade;
        boolean rises = false;
        if (before.rises) {
            shade = Math.min(shade + ink.rise, ink.top);
            rises = shade != ink.top;
        } else if (law != 3 || year % 2 == 0) {
            shade -= ink.fade;
            shade -= law == 1 && damp.get(entries.get(e).page) ? ink.fade : 0;
            shade -= wetFrom.contains(year - 1) ? 2 : 0;
            shade = Math.max(shade, 0);
        }
        if (law == 2 && faces(e) >= 0) {
            State other = state(faces(e), year - 1);
            if (other != null && other.shade >= before.shade + 10) {
                shade = Math.min(shade + 1, 60);
            }
        }
        return new State(shade, rises, before.ink);
    }

    boolean isThere(int e, int year) {
        return state(e, year) != null;
    }

    int shade(int e, int year) {
        State s = state(e, year);
        return s == null ? 0 : s.shade;
    }

    // ---- what is asked of it ----

    interface Asked {
        boolean of(int e);
    }

    int bits(Asked asked) {
        int bits = 0;
        for (int e = 0; e < entries.size(); e++) {
            bits += asked.of(e) ? 1 << e : 0;
        }
        return bits;
    }

    private List<Integer> thereIn(int year) {
        List<Integer> list = new ArrayList<>();
        for (int e = 0; e < entries.size(); e++) {
            if (isThere(e, year)) {
                list.add(e);
            }
        }
        return list;
    }

    private List<Integer> shadesThere(int year) {
        return thereIn(year).stream().map(e -> shade(e, year)).toList();
    }

    int firstYear(IntPredicate asked, int none) {
        for (int y = 0; y <= years; y++) {
            if (asked.test(y)) {
                return y;
            }
        }
        return none;
    }

    int howManyYears(int from, IntPredicate asked) {
        int n = 0;
        for (int y = from; y <= years; y++) {
            n += asked.test(y) ? 1 : 0;
        }
        return n;
    }

    int there(int year) {
        return bits(e -> isThere(e, year));
    }

    int peak(int e) {
        int most = 0;
        for (int y = 0; y <= years; y++) {
            most = Math.max(most, shade(e, y));
        }
        return most;
    }

    int ripe(int e) {
        return firstYear(y -> shade(e, y) == peak(e), 99);
    }

    int blank(int e) {
        return firstYear(y -> isThere(e, y) && shade(e, y) == 0, -1);
    }

    int clear(int year) {
        return bits(e -> shade(e, year) >= 5);
    }

    int all(int year) {
        int sum = 0;
        for (int e = 0; e < entries.size(); e++) {
            sum += shade(e, year);
        }
        return sum;
    }

    /** The first there, of those asked, with which none of the others compares better. */
    private int best(int year, Asked asked, java.util.Comparator<Integer> better) {
        List<Integer> of = new ArrayList<>(thereIn(year).stream().filter(asked::of).toList());
        of.sort(better.thenComparing(e -> e));
        return of.isEmpty() ? -1 : of.get(0);
    }

    int darkest(int year) {
        return best(year, e -> true, (a, b) -> shade(b, year) - shade(a, year));
    }

    int palest(int year) {
        return best(year, e -> true, (a, b) -> shade(a, year) - shade(b, year));
    }

    int bold(int page, int year) {
        return best(year, e -> entries.get(e).page == page, (a, b) -> shade(b, year) - shade(a, year));
    }

    int newest(int year) {
        return best(year, e -> true, (a, b) -> entries.get(b).wrote - entries.get(a).wrote);
    }

    int oldest(int year) {
        return best(year, e -> true, (a, b) -> entries.get(a).wrote - entries.get(b).wrote);
    }

    int sorts(int year) {
        return new HashSet<>(shadesThere(year)).size();
    }

    int alike(int year) {
        List<Integer> of = shadesThere(year);
        int n = 0;
        for (int s : of) {
            n += Collections.frequency(of, s) - 1;
        }
        return n / 2;
    }

    int spread(int year) {
        List<Integer> of = shadesThere(year);
        return of.isEmpty() ? 0 : Collections.max(of) - Collections.min(of);
    }

    int rising(int year) {
        return bits(e -> isThere(e, year) && state(e, year).rises);
    }

    int paling(int year) {
        return year == 0 ? 0 : bits(e -> shade(e, year) < shade(e, year - 1));
    }

    int cross(int a, int b) {
        return firstYear(y -> isThere(a, y) && isThere(b, y) && shade(a, y) > shade(b, y), -1);
    }

    int swaps(int a, int b) {
        return howManyYears(1, y -> isThere(a, y) && isThere(b, y) && isThere(a, y - 1) && isThere(b, y - 1)
                && Integer.signum(shade(a, y) - shade(b, y)) != Integer.signum(shade(a, y - 1) - shade(b, y - 1)));
    }

    int match(int a, int b) {
        return howManyYears(0, y -> isThere(a, y) && isThere(b, y) && shade(a, y) == shade(b, y));
    }

    private boolean behindEarlier(int e) {
        for (int i = e + 1; i < entries.size(); i++) {
            if (entries.get(i).page == entries.get(e).page && entries.get(i).wrote < entries.get(e).wrote) {
                return true;
            }
        }
        return false;
    }

    int put() {
        return bits(this::behindEarlier);
    }

    int order(int page) {
        return bits(e -> entries.get(e).page == page && behindEarlier(e)) == 0 ? 1 : 0;
    }

    int lies() {
        return bits(e -> entries.get(e).wrote != entries.get(e).says);
    }

    int sum(int page, int year) {
        int sum = 0;
        for (int e = 0; e < entries.size(); e++) {
            sum += entries.get(e).page == page ? shade(e, year) : 0;
        }
        return sum;
    }

    int steady(int e) {
        int most = 0;
        for (int from = 0; from <= years; from++) {
            for (int to = from; to <= years; to++) {
                boolean one = isThere(e, from);
                for (int y = from; y <= to; y++) {
                    one &= shade(e, y) == shade(e, from);
                }
                most = one ? Math.max(most, to - from + 1) : most;
            }
        }
        return most;
    }

    int falls(int e) {
        return howManyYears(1, y -> shade(e, y) < shade(e, y - 1));
    }

    int lasts(int e) {
        return howManyYears(0, y -> shade(e, y) >= 5);
    }

    int peaks() {
        return firstYear(y -> howManyYears(0, z -> all(z) > all(y)) == 0, 99);
    }

    // ---- IV ----

    /** Of a BOOK with one ENTRY alone. */
    private int alone(int page, int ink, int wrote, int year) {
        Model m = new Model();
        m.years = years;
        m.law = law == 2 ? 0 : law;
        m.inks = inks;
        m.damp = damp;
        m.entries.add(new Entry(page, ink, wrote, 0));
        return m.shade(0, year);
    }

    boolean passesBy(int e, int ink, int year) {
        return shade(e, year) == alone(entries.get(e).page, ink, entries.get(e).says, year);
    }

    int passes(int e, int year) {
        int bits = 0;
        for (int ink = 0; ink < inks.size(); ink++) {
            bits += passesBy(e, ink, year) ? 1 << ink : 0;
        }
        return bits;
    }

    int suspects(int year) {
        return bits(e -> isThere(e, year) && passes(e, year) == 0);
    }

    int honest(int year) {
        return bits(e -> isThere(e, year) && passesBy(e, entries.get(e).ink, year));
    }

    int betrayed(int e) {
        return firstYear(y -> isThere(e, y) && passes(e, y) == 0, -1);
    }

    int ages(int ink, int page, int n, int year) {
        int bits = 0;
        for (int w = 0; w <= years; w++) {
            bits += alone(page, ink, w, year) == n ? 1 << w : 0;
        }
        return bits;
    }

    // ---- V and what would be ----

    Model written(int e, int wrote) {
        Model m = copy();
        Entry x = entries.get(e);
        m.entries.set(e, new Entry(x.page, x.ink, wrote, x.says));
        return m;
    }

    Model inked(int e, int ink) {
        Model m = copy();
        Entry x = entries.get(e);
        m.entries.set(e, new Entry(x.page, ink, x.wrote, x.says));
        return m;
    }

    Model byLaw(int other) {
        Model m = copy();
        m.law = other;
        return m;
    }

    Model with(Act... more) {
        Model m = copy();
        m.acts.addAll(List.of(more));
        return m;
    }

    boolean isAs(int[] row) {
        for (int i = 0; i < row.length; i += 3) {
            if (shade(row[i], row[i + 1]) != row[i + 2]) {
                return false;
            }
        }
        return true;
    }

    List<Integer> dates(int[] row, int e) {
        List<Integer> of = new ArrayList<>();
        for (int w = 0; w <= years; w++) {
            if (written(e, w).isAs(row)) {
                of.add(w);
            }
        }
        return of;
    }

    /** YEAR to ask (or -1), and how many are left. */
    int[] ask(int[] row, int e) {
        List<Integer> of = dates(row, e);
        List<Model> as = of.stream().map(w -> written(e, w)).toList();
        int[] best = {-1, of.size()};
        for (int y = 0; y <= years; y++) {
            Map<Integer, Integer> left = new TreeMap<>();
            for (Model m : as) {
                left.merge(m.shade(e, y), 1, Integer::sum);
            }
            int worst = left.isEmpty() ? 0 : Collections.max(left.values());
            if (worst < best[1]) {
                best = new int[] {y, worst};
            }
        }
        return best;
    }

    int kinds(int[] row, int e) {
        int bits = 0;
        for (int ink = 0; ink < inks.size(); ink++) {
            bits += inked(e, ink).isAs(row) ? 1 << ink : 0;
        }
        return bits;
    }

    int laws(int[] row) {
        int bits = 0;
        for (int other = 0; other < 4; other++) {
            bits += byLaw(other).isAs(row) ? 1 << other : 0;
        }
        return bits;
    }

    int by(int other) {
        return byLaw(other).all(years);
    }

    int mostByLaw() {
        int most = Math.max(Math.max(by(0), by(1)), Math.max(by(2), by(3)));
        return by(0) == most ? 0 : by(1) == most ? 1 : by(2) == most ? 2 : 3;
    }

    int hide(int e, int year) {
        for (int k = 0; k <= 9; k++) {
            Model m = copy();
            m.acts.addAll(Collections.nCopies(k, new Act(e, -1, year)));
            if (m.shade(e, years) < 5) {
                return k;
            }
        }
        return -1;
    }

    int save(int e) {
        return firstYear(y -> isThere(e, y) && with(new Act(e, entries.get(e).ink, y)).shade(e, years) >= 5, -1);
    }

    int heavy() {
        int best = -1;
        int least = all(years);
        for (int e = 0; e < entries.size(); e++) {
            int left = written(e, 50).all(years);
            if (left < least) {
                least = left;
                best = e;
            }
        }
        return best;
    }

    // ---- VI, VII, VIII ----

    int worth(int set) {
        Set<Integer> of = new HashSet<>();
        for (int e = 0; e < entries.size(); e++) {
            if ((set & 1 << e) != 0 && isThere(e, years)) {
                of.add(shade(e, years));
            }
        }
        return of.size();
    }

    /** Above and below, in lowest terms. */
    static long[] fraction(BigInteger above, BigInteger below) {
        BigInteger by = above.gcd(below);
        return new long[] {above.divide(by).longValueExact(), below.divide(by).longValueExact()};
    }

    long[] share(int e) {
        long[] sum = new long[2];
        orders(new ArrayList<>(), e, sum);
        return fraction(BigInteger.valueOf(sum[0]), BigInteger.valueOf(sum[1]));
    }

    private void orders(List<Integer> ahead, int e, long[] sum) {
        if (ahead.size() == entries.size()) {
            int set = 0;
            for (int i : ahead) {
                if (i == e) {
                    break;
                }
                set |= 1 << i;
            }
            sum[0] += worth(set | 1 << e) - worth(set);
            sum[1]++;
            return;
        }
        for (int i = 0; i < entries.size(); i++) {
            if (!ahead.contains(i)) {
                ahead.add(i);
                orders(ahead, e, sum);
                ahead.remove(ahead.size() - 1);
            }
        }
    }

    int gets(int page, int other, int turned, int otherTurned) {
        Model m = copy();
        m.damp.set(page, m.damp.get(page) != (turned == 1));
        m.damp.set(other, m.damp.get(other) != (otherTurned == 1));
        return 3 * Integer.bitCount(m.bits(e -> entries.get(e).page == page && m.shade(e, years) >= 5)) - turned;
    }

    int rests(int page, int other) {
        int bits = 0;
        for (int a = 0; a < 2; a++) {
            for (int b = 0; b < 2; b++) {
                boolean rest = gets(page, other, 1 - a, b) <= gets(page, other, a, b)
                        && gets(other, page, 1 - b, a) <= gets(other, page, b, a);
                bits += rest ? 1 << (a + 2 * b) : 0;
            }
        }
        return bits;
    }

    Model wet(int wetBits) {
        Model m = copy();
        for (int y = 0; y < 31; y++) {
            if ((wetBits >> y & 1) == 1) {
                m.wetFrom.add(y);
            }
        }
        return m;
    }

    interface Weighed {
        int of(Model m);
    }

    /** Each of the cases that can come until a YEAR, by its odds. */
    long[] mean(int year, Weighed what) {
        BigInteger sum = BigInteger.ZERO;
        for (int wetBits = 0; wetBits < 1 << year; wetBits++) {
            BigInteger weight = BigInteger.valueOf(odds).pow(Integer.bitCount(wetBits))
                    .multiply(BigInteger.valueOf(10 - odds).pow(year - Integer.bitCount(wetBits)));
            sum = sum.add(weight.multiply(BigInteger.valueOf(what.of(wet(wetBits)))));
        }
        return fraction(sum, BigInteger.TEN.pow(year));
    }

    int drawn(int seed) {
        BigInteger x = BigInteger.valueOf(seed);
        int bits = 0;
        for (int y = 0; y < years; y++) {
            x = x.multiply(BigInteger.valueOf(1103515245)).add(BigInteger.valueOf(12345)).mod(BigInteger.ONE.shiftLeft(31));
            bits += x.shiftRight(16).mod(BigInteger.TEN).intValue() < odds ? 1 << y : 0;
        }
        return bits;
    }
}
