import java.math.BigInteger;
import java.util.ArrayList;
import java.util.BitSet;
import java.util.Comparator;
import java.util.List;
import java.util.TreeMap;

/**
 * A second reading of the document, as literal and as slow as it likes: years are sets of years,
 * chances are exact fractions, and a gain is found by trying both outcomes.
 */
final class Model {
    private static final int BAD = -1, FULL = -2, FINDING = -3, STATE = -4, NONE = -9;

    private record Fraction(BigInteger up, BigInteger low) {
        static Fraction of(BigInteger up, BigInteger low) {
            BigInteger g = up.gcd(low);
            return new Fraction(up.divide(g), low.divide(g));
        }

        Fraction plus(Fraction o) {
            return of(up.multiply(o.low).add(o.up.multiply(low)), low.multiply(o.low));
        }

        Fraction times(Fraction o) {
            return of(up.multiply(o.up), low.multiply(o.low));
        }

        Fraction negated() {
            return new Fraction(up.negate(), low);
        }

        int compare(Fraction o) {
            return up.multiply(o.low).compareTo(o.up.multiply(low));
        }
    }

    private static final class Proof {
        int kind, weight, told, struck = NONE, a, b, paint, ring, sap, row, other;
    }

    private static final class Trial {
        int cost, wound, group;
        int[] often = {8, 8, 8, 8};
        Boolean out = null;
    }

    private record Opinion(int expert, int hand, int sure, boolean knew) { }

    private record Law(int day, int d, int u, int rate, int number) { }

    private int today;
    private final TreeMap<Integer, List<Byte>> rows = new TreeMap<>();
    private final int[] paints = {1000, 1000, 1000, 1000, 1000, 1000, 1000, 1000, 1000, 1000};
    private int least = 8, most = 24, use = 10;
    private final List<Proof> proofs = new ArrayList<>();
    private final int[] hands = {1, 1, 1, 1};
    private final List<Trial> trials = new ArrayList<>();
    private final List<Trial> doneInOrder = new ArrayList<>();
    private final List<int[]> owners = new ArrayList<>();
    private final List<Opinion> opinions = new ArrayList<>();
    private final List<Law> laws = new ArrayList<>();
    private int[] contract = null;
    private int asked = 0;
    private long upper = 0, lower = 1;
    private final List<Integer> findings = new ArrayList<>();

    private int find(int f) {
        findings.add(f);
        return FINDING;
    }

    private static boolean in(int n, int lo, int hi) {
        return lo <= n && n <= hi;
    }

    private static boolean years(int a, int b) {
        return in(a, 1000, 2100) && in(b, 1000, 2100) && a <= b;
    }

    int later(int n) {
        long then = (long) today + n;
        if (n < 0 || then > 30000) return BAD;
        return today = (int) then;
    }

    int row(int r, int n) {
        if (!in(r, 0, 5) || n > 40) return BAD;
        if (n < 0) return find(5);
        List<Byte> made = new ArrayList<>();
        for (int i = 0; i < n; i++) made.add((byte) 0);
        rows.put(r, made);
        return n;
    }

    int lay(int r, int i, int v) {
        if (!in(r, 0, 5)) return BAD;
        if (!rows.containsKey(r)) return find(1);
        if (!in(i, 0, rows.get(r).size() - 1)) return find(2);
        return rows.get(r).set(i, (byte) v) + 1000;
    }

    int tear(int r) {
        if (!in(r, 0, 5)) return BAD;
        return rows.remove(r) == null ? find(1) : 1;
    }

    int copy(int r, int i, int to, int j, int n) {
        if (!in(r, 0, 5) || !in(to, 0, 5)) return BAD;
        if (!rows.containsKey(r) || !rows.containsKey(to)) return find(1);
        boolean there = (long) i + n <= rows.get(r).size() && (long) j + n <= rows.get(to).size();
        if (i < 0 || j < 0 || n < 0 || !there) return find(2);
        List<Byte> ahead = new ArrayList<>(rows.get(r).subList(i, i + n));
        for (int k = 0; k < n; k++) rows.get(to).set(j + k, ahead.get(k));
        return 1;
    }

    /** Place and OFF, or null where there is no match. */
    private int[] matchOf(int r, int other) {
        List<Byte> a = rows.get(r), b = rows.get(other);
        if (a == null || b == null || a.isEmpty() || b.size() < a.size()) return null;
        int[] best = null;
        for (int place = b.size() - a.size(); place >= 0; place--) {
            int off = 0;
            for (int i = 0; i < a.size(); i++) off += Math.abs(a.get(i) - b.get(place + i));
            if (best == null || off <= best[1]) best = new int[] {place, off};
        }
        return best;
    }

    int match(int r, int other) {
        if (!in(r, 0, 5) || !in(other, 0, 5) || r == other) return BAD;
        if (!rows.containsKey(r) || !rows.containsKey(other)) return find(1);
        int[] it = matchOf(r, other);
        if (it == null) return find(5);
        asked = it[1];
        return it[0];
    }

    private boolean isSure(int r, int other) {
        int[] it = matchOf(r, other);
        if (it == null) return false;
        for (int k : rows.keySet()) {
            int[] rival = matchOf(r, k);
            if (k != r && k != other && rival != null && rival[1] <= it[1]) return false;
        }
        return true;
    }

    int sure(int r, int other) {
        if (!in(r, 0, 5) || !in(other, 0, 5) || r == other) return BAD;
        return isSure(r, other) ? 1 : 0;
    }

    int paint(int p, int year) {
        if (!in(p, 0, 9) || !in(year, 1000, 2100)) return BAD;
        int was = paints[p];
        paints[p] = year;
        return was;
    }

    int sap(int least, int most, int use) {
        if (!in(least, 0, 60) || !in(most, 0, 60) || least > most || !in(use, 0, 60)) return BAD;
        this.least = least;
        this.most = most;
        this.use = use;
        return 1;
    }

    private int tell(Proof p, int kind, int weight) {
        p.kind = kind;
        p.weight = weight;
        p.told = today;
        proofs.add(p);
        return proofs.size() - 1;
    }

    int proof(int a, int b, int weight) {
        if (!years(a, b) || !in(weight, 1, 9)) return BAD;
        if (proofs.size() == 24) return FULL;
        Proof p = new Proof();
        p.a = a;
        p.b = b;
        return tell(p, 0, weight);
    }

    int found(int paint, int weight) {
        if (!in(paint, 0, 9) || !in(weight, 1, 9)) return BAD;
        if (proofs.size() == 24) return FULL;
        Proof p = new Proof();
        p.paint = paint;
        return tell(p, 1, weight);
    }

    int rings(int r, int s, int weight) {
        if (!in(r, 1000, 2000) || !in(s, 0, 30) || !in(weight, 1, 9)) return BAD;
        if (proofs.size() == 24) return FULL;
        Proof p = new Proof();
        p.ring = r;
        p.sap = s;
        return tell(p, 2, weight);
    }

    int threads(int row, int other, int a, int b, int weight) {
        if (!in(row, 0, 5) || !in(other, 0, 5) || row == other || !years(a, b) || !in(weight, 1, 9)) return BAD;
        if (proofs.size() == 24) return FULL;
        Proof p = new Proof();
        p.row = row;
        p.other = other;
        p.a = a;
        p.b = b;
        return tell(p, 3, weight);
    }

    int strike(int proof) {
        if (!in(proof, 0, proofs.size() - 1)) return BAD;
        if (proofs.get(proof).struck != NONE) return STATE;
        proofs.get(proof).struck = today;
        return 1;
    }

    private BitSet yearsOf(Proof p) {
        int from = p.a, to = p.b;
        if (p.kind == 1) {
            from = paints[p.paint];
            to = 2100;
        } else if (p.kind == 2) {
            from = p.ring + (p.sap < least ? least - p.sap : 0);
            to = p.ring + (p.sap < most ? most - p.sap : 0) + use;
        } else if (p.kind == 3 && !isSure(p.row, p.other)) {
            from = 1000;
            to = 2100;
        }
        BitSet years = new BitSet();
        years.set(from, Math.min(to, 2100) + 1);
        return years;
    }

    private static int first(BitSet years) {
        return years.nextSetBit(0);
    }

    private static int last(BitSet years) {
        return years.length() - 1;
    }

    int told(int proof, int what) {
        if (!in(proof, 0, proofs.size() - 1) || !in(what, 0, 5)) return BAD;
        Proof p = proofs.get(proof);
        return switch (what) {
            case 0 -> p.kind;
            case 1 -> p.weight;
            case 2 -> p.told;
            case 3 -> p.struck;
            case 4 -> first(yearsOf(p));
            default -> last(yearsOf(p));
        };
    }

    int mark(int proof, int kind) {
        if (!in(proof, 0, proofs.size() - 1) || !in(kind, 0, 3)) return BAD;
        Proof p = proofs.get(proof);
        if (kind == 0) return yearsOf(p).cardinality();
        if (kind != p.kind) return find(3);
        return kind == 1 ? p.paint : kind == 2 ? p.sap : isSure(p.row, p.other) ? 1 : 0;
    }

    private TreeMap<Integer, BitSet> known(int day) {
        TreeMap<Integer, BitSet> known = new TreeMap<>();
        for (int p = 0; p < proofs.size(); p++) {
            Proof it = proofs.get(p);
            boolean notYetStruck = it.struck == NONE || day < it.struck;
            if (it.told <= day && notYetStruck) known.put(p, yearsOf(it));
        }
        return known;
    }

    int span(int day, boolean late) {
        if (!in(day, 0, 30000)) return BAD;
        BitSet common = new BitSet();
        common.set(1000, 2101);
        for (BitSet years : known(day).values()) common.and(years);
        return common.isEmpty() ? NONE : late ? last(common) : first(common);
    }

    int quarrel(int day) {
        if (!in(day, 0, 30000)) return BAD;
        TreeMap<Integer, BitSet> known = known(day);
        for (int p : known.keySet()) {
            for (int q : known.tailMap(p, false).keySet()) {
                if (!known.get(p).intersects(known.get(q))) {
                    asked = q;
                    return p;
                }
            }
        }
        return NONE;
    }

    private int heldBy(TreeMap<Integer, BitSet> known) {
        int best = 0, bestYear = 0;
        for (int y = 2100; y >= 1000; y--) {
            int sum = 0;
            for (int p : known.keySet()) sum += known.get(p).get(y) ? proofs.get(p).weight : 0;
            if (sum >= best) {
                best = sum;
                bestYear = y;
            }
        }
        return bestYear;
    }

    int leftOut(int day) {
        if (!in(day, 0, 30000)) return BAD;
        TreeMap<Integer, BitSet> known = known(day);
        int year = heldBy(known), sum = 0;
        asked = 0;
        for (int p : known.keySet()) {
            if (!known.get(p).get(year)) {
                sum += proofs.get(p).weight;
                asked += 1 << p;
            }
        }
        return sum;
    }

    int heldYear(int day) {
        return in(day, 0, 30000) ? heldBy(known(day)) : BAD;
    }

    int hand(int hand, int w) {
        if (!in(hand, 0, 3) || !in(w, 0, 99)) return BAD;
        int was = hands[hand];
        hands[hand] = w;
        return was;
    }

    int test(int cost, int wound, int group) {
        if (!in(cost, 1, 1000) || !in(wound, 0, 9) || (group != NONE && !in(group, 0, 3))) return BAD;
        if (trials.size() == 10) return FULL;
        Trial t = new Trial();
        t.cost = cost;
        t.wound = wound;
        t.group = group;
        trials.add(t);
        return trials.size() - 1;
    }

    int often(int test, int hand, int n) {
        if (!in(test, 0, trials.size() - 1) || !in(hand, 0, 3) || !in(n, 0, 16)) return BAD;
        Trial t = trials.get(test);
        if (t.out != null) return STATE;
        int was = t.often[hand];
        t.often[hand] = n;
        return was;
    }

    private boolean counts(Trial t) {
        if (t.group == NONE) return true;
        for (Trial d : doneInOrder) if (d.group == t.group) return d == t;
        return false;
    }

    int done(int test, boolean out) {
        if (!in(test, 0, trials.size() - 1)) return BAD;
        Trial t = trials.get(test);
        if (t.out != null) return STATE;
        t.out = out;
        doneInOrder.add(t);
        return counts(t) ? 1 : 0;
    }

    private BigInteger score(int hand) {
        BigInteger score = BigInteger.valueOf(hands[hand]);
        for (Trial t : doneInOrder) {
            if (counts(t)) score = score.multiply(BigInteger.valueOf(t.out ? t.often[hand] : 16 - t.often[hand]));
        }
        return score;
    }

    private BigInteger all() {
        return score(0).add(score(1)).add(score(2)).add(score(3));
    }

    private Fraction chanceOf(int hand) {
        return Fraction.of(score(hand), all());
    }

    private Fraction greatestChance() {
        Fraction best = chanceOf(0);
        for (int hand = 1; hand < 4; hand++) if (chanceOf(hand).compare(best) > 0) best = chanceOf(hand);
        return best;
    }

    private int tellFraction(Fraction f) {
        upper = f.up.longValueExact();
        lower = f.low.longValueExact();
        return 1;
    }

    int chance(int hand) {
        if (!in(hand, 0, 3)) return BAD;
        if (all().signum() == 0) return find(4);
        return tellFraction(chanceOf(hand));
    }

    int likely() {
        if (all().signum() == 0) return find(4);
        for (int hand = 0; hand < 4; hand++) if (chanceOf(hand).compare(greatestChance()) == 0) return hand;
        return NONE;
    }

    private boolean open(Trial t) {
        if (t.out != null) return false;
        for (Trial d : doneInOrder) if (t.group != NONE && d.group == t.group) return false;
        return true;
    }

    /** Tries both outcomes, each weighed by how likely it is. */
    private Fraction gainOf(Trial t) {
        Fraction gain = greatestChance().negated();
        Fraction[] likelihood = new Fraction[2];
        for (int out = 0; out < 2; out++) {
            Fraction sum = Fraction.of(BigInteger.ZERO, BigInteger.ONE);
            for (int hand = 0; hand < 4; hand++) {
                int n = out == 1 ? t.often[hand] : 16 - t.often[hand];
                sum = sum.plus(chanceOf(hand).times(Fraction.of(BigInteger.valueOf(n), BigInteger.valueOf(16))));
            }
            likelihood[out] = sum;
        }
        for (int out = 0; out < 2; out++) {
            if (likelihood[out].up.signum() == 0) continue;
            t.out = out == 1;
            doneInOrder.add(t);
            gain = gain.plus(likelihood[out].times(greatestChance()));
            doneInOrder.remove(t);
            t.out = null;
        }
        return gain;
    }

    int gain(int test) {
        if (!in(test, 0, trials.size() - 1)) return BAD;
        if (!open(trials.get(test))) return STATE;
        if (all().signum() == 0) return find(4);
        return tellFraction(gainOf(trials.get(test)));
    }

    int next(int cost, int wound) {
        if (cost < 0 || wound < 0) return BAD;
        if (all().signum() == 0) return find(4);
        return trials.stream().filter(t -> open(t) && t.cost <= cost && t.wound <= wound)
                .min(Comparator.<Trial, Fraction>comparing(this::gainOf, (f, g) -> g.compare(f))
                        .thenComparing(t -> t.cost).thenComparing(trials::indexOf))
                .map(trials::indexOf).orElse(NONE);
    }

    int owner(int a, int b) {
        if (!years(a, b)) return BAD;
        if (owners.size() == 20) return FULL;
        owners.add(new int[] {a, b});
        return owners.size();
    }

    int gaps(int a, int b) {
        if (!years(a, b)) return BAD;
        int all = 0, run = 0, longest = 0;
        for (int y = a; y <= b; y++) {
            int year = y;
            boolean owned = owners.stream().anyMatch(o -> in(year, o[0], o[1]));
            run = owned ? 0 : run + 1;
            all += owned ? 0 : 1;
            longest = Math.max(longest, run);
        }
        asked = longest;
        return all;
    }

    int opinion(int expert, int hand, int sure, boolean knew) {
        if (!in(expert, 0, 9) || !in(hand, 0, 3) || !in(sure, 0, 100)) return BAD;
        if (opinions.size() == 30) return FULL;
        opinions.add(new Opinion(expert, hand, sure, knew));
        return opinions.size();
    }

    int mean(int hand, boolean knew) {
        if (!in(hand, 0, 3)) return BAD;
        List<Opinion> those = opinions.stream().filter(o -> o.hand == hand && o.knew == knew).toList();
        return those.isEmpty() ? find(4) : those.stream().mapToInt(o -> o.sure).sum() / those.size();
    }

    int spread() {
        int best = NONE;
        for (int expert = 9; expert >= 0; expert--) {
            for (int hand = 0; hand < 4; hand++) {
                int e = expert, h = hand;
                int[] sure = opinions.stream().filter(o -> !o.knew && o.expert == e && o.hand == h)
                        .mapToInt(o -> o.sure).sorted().toArray();
                if (sure.length >= 2 && sure[sure.length - 1] - sure[0] >= best) {
                    best = sure[sure.length - 1] - sure[0];
                    asked = expert;
                }
            }
        }
        return best;
    }

    int sold(int day, int price, int hand) {
        if (!in(day, 0, today) || !in(price, 1, 1000000) || !in(hand, 0, 3)) return BAD;
        contract = new int[] {day, price, hand};
        return 1;
    }

    int law(int day, int d, int u, int rate) {
        if (!in(day, 0, 30000) || !in(d, 0, 30000) || !in(u, 0, 100) || !in(rate, 0, 100)) return BAD;
        if (laws.size() == 8) return FULL;
        laws.add(new Law(day, d, u, rate, laws.size()));
        return laws.size() - 1;
    }

    int claim() {
        if (contract == null) return STATE;
        Law law = laws.stream().filter(l -> l.day <= contract[0])
                .max(Comparator.<Law>comparingInt(l -> l.day).thenComparingInt(l -> l.number)).orElse(null);
        if (law == null) return STATE;
        if (all().signum() == 0) return find(4);
        int days = today - contract[0];
        if (days > law.d) return 2;
        Fraction u = Fraction.of(BigInteger.valueOf(law.u), BigInteger.valueOf(100));
        if (chanceOf(contract[2]).compare(u) >= 0) return 3;
        asked = BigInteger.valueOf(contract[1]).multiply(BigInteger.valueOf(law.rate))
                .multiply(BigInteger.valueOf(days)).divide(BigInteger.valueOf(36500))
                .add(BigInteger.valueOf(contract[1])).intValueExact();
        return 1;
    }

    int asked() {
        return asked;
    }

    long upper() {
        return upper;
    }

    long lower() {
        return lower;
    }

    int count(int what) {
        return switch (what) {
            case 0 -> today;
            case 1 -> proofs.size();
            case 2 -> (int) proofs.stream().filter(p -> p.struck == NONE).count();
            case 3 -> trials.size();
            case 4 -> doneInOrder.size();
            case 5 -> owners.size();
            case 6 -> opinions.size();
            case 7 -> laws.size();
            default -> BAD;
        };
    }

    int finding() {
        return findings.isEmpty() ? 0 : findings.get(findings.size() - 1);
    }

    int findings(int f) {
        return in(f, 1, 5) ? (int) findings.stream().filter(g -> g == f).count() : BAD;
    }

    long digest() {
        List<Integer> v = new ArrayList<>();
        for (int what = 0; what <= 7; what++) v.add(count(what));
        for (Proof p : proofs) {
            BitSet years = yearsOf(p);
            v.addAll(List.of(p.kind, p.weight, p.told, p.struck, first(years), last(years)));
        }
        for (int w : hands) v.add(w);
        for (Trial t : trials) {
            v.addAll(List.of(t.cost, t.wound, t.group, t.often[0], t.often[1], t.often[2], t.often[3]));
            v.add(t.out == null ? NONE : t.out ? 1 : 0);
        }
        for (int y : paints) v.add(y);
        for (int r = 0; r < 6; r++) {
            v.add(rows.containsKey(r) ? rows.get(r).size() : -1);
            if (rows.containsKey(r)) for (byte b : rows.get(r)) v.add((int) b);
        }
        long h = 17;
        for (int n : v) h = 31 * h + n;
        return h;
    }
}
