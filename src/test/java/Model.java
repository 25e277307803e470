import java.math.BigInteger;
import java.util.ArrayList;
import java.util.Comparator;
import java.util.HashSet;
import java.util.List;
import java.util.NoSuchElementException;
import java.util.Set;

/** The document's terms word for word, with sets of entries and without any thrift: what ModelTest compares with. */
final class Model {
    private enum Sort { LEND, BACK, VALUE }

    private static final class Entry {
        Sort sort;
        int author;
        int number;
        int[] vector;
        int plot;
        int lendNumber;
        int tablet;
        int tree;
        int field;
        int value;
        int rank;
    }

    private static final Comparator<Entry> ORDER =
        Comparator.<Entry>comparingInt(e -> e.author).thenComparingInt(e -> e.number);

    private final List<Entry> all = new ArrayList<>();
    private final List<Set<Entry>> known = new ArrayList<>();
    private final List<Set<Entry>> kept = new ArrayList<>();
    private final int[][] species = {{50, 20, 200}, {50, 20, 200}, {50, 20, 200}, {50, 20, 200}};
    private final int[] stands = new int[6];
    private int[] meeting = null;

    Model() {
        for (int d = 0; d < 5; d++) {
            known.add(new HashSet<>());
            kept.add(new HashSet<>());
        }
    }

    void species(int s, int factor, int low, int high) {
        illegalUnless(in(s, 0, 3) && in(factor, 1, 100) && in(low, 0, 1000) && in(high, low, 1000));
        species[s] = new int[] {factor, low, high};
    }

    void stand(int plot, int stand) {
        illegalUnless(in(plot, 0, 5) && in(stand, 0, 2));
        stands[plot] = stand;
    }

    int lend(int plot, int tablet) {
        illegalUnless(in(plot, 0, 5) && in(tablet, 1, 4));
        badStateUnless(holder(0, plot, 0) == -1 && known(0, 0) < 40);
        Entry e = new Entry();
        e.sort = Sort.LEND;
        e.plot = plot;
        e.tablet = tablet;
        e.lendNumber = 1 + (int) all.stream().filter(o -> o.sort == Sort.LEND && o.plot == plot).count();
        write(0, e);
        return e.lendNumber;
    }

    int giveBack(int tablet, int plot) {
        illegalUnless(in(tablet, 1, 4) && in(plot, 0, 5));
        badStateUnless(holder(tablet, plot, 0) == tablet && known(tablet, tablet) < 40);
        Entry e = new Entry();
        e.sort = Sort.BACK;
        e.plot = plot;
        e.lendNumber = holder(tablet, plot, 1);
        return write(tablet, e);
    }

    int enter(int device, int plot, int tree, int field, int value) {
        illegalUnless(in(device, 0, 4) && isField(plot, tree, field) && fits(field, value));
        badStateUnless(known(device, device) < 40);
        int rank = holder(device, plot, 0) == device ? holder(device, plot, 1) : 0;
        return writeValue(device, plot, tree, field, value, rank);
    }

    int resolve(int i, int value) {
        int place = i < 0 ? -1 : conflict(0, i);
        if (place < 0) {
            throw new NoSuchElementException();
        }
        int plot = place / 100;
        int tree = place / 10 % 10;
        int field = place % 10;
        illegalUnless(fits(field, value));
        badStateUnless(known(0, 0) < 40);
        int rank = 1 + values(0, plot, tree, field).stream().mapToInt(e -> e.rank).max().getAsInt();
        return writeValue(0, plot, tree, field, value, rank);
    }

    void meet(int a, int b) {
        illegalUnless(in(a, 0, 4) && in(b, 0, 4) && a != b);
        badStateUnless(meeting == null);
        meeting = new int[] {a, b};
    }

    boolean swap() {
        badStateUnless(meeting != null);
        return carry(meeting[0], meeting[1]) || carry(meeting[1], meeting[0]);
    }

    void part() {
        badStateUnless(meeting != null);
        keep(meeting[0]);
        keep(meeting[1]);
        meeting = null;
    }

    void crash(int device) {
        illegalUnless(in(device, 0, 4));
        known.get(device).retainAll(kept.get(device));
        all.stream().filter(e -> e.author == device).forEach(known.get(device)::add);
        if (meeting != null && (meeting[0] == device || meeting[1] == device)) {
            keep(meeting[0] == device ? meeting[1] : meeting[0]);
            meeting = null;
        }
    }

    int known(int device, int other) {
        illegalUnless(in(device, 0, 4) && in(other, 0, 4));
        return (int) known.get(device).stream().filter(e -> e.author == other).count();
    }

    int holder(int device, int plot, int what) {
        illegalUnless(in(device, 0, 4) && in(plot, 0, 5) && in(what, 0, 1));
        Entry greatest = null;
        for (Entry e : known.get(device)) {
            if (e.sort == Sort.LEND && e.plot == plot
                && (greatest == null || e.lendNumber > greatest.lendNumber)) {
                greatest = e;
            }
        }
        if (what == 1) {
            return greatest == null ? 0 : greatest.lendNumber;
        }
        if (greatest == null) {
            return -1;
        }
        for (Entry e : known.get(device)) {
            if (e.sort == Sort.BACK && e.plot == plot && e.lendNumber == greatest.lendNumber) {
                return -1;
            }
        }
        return greatest.tablet;
    }

    int value(int device, int plot, int tree, int field) {
        illegalUnless(in(device, 0, 4) && isField(plot, tree, field));
        List<Entry> candidates = candidates(device, plot, tree, field);
        if (candidates.isEmpty()) {
            throw new NoSuchElementException();
        }
        return candidates.get(candidates.size() - 1).value;
    }

    int candidate(int device, int plot, int tree, int field, int i) {
        illegalUnless(in(device, 0, 4) && isField(plot, tree, field) && i >= 0);
        List<Entry> candidates = candidates(device, plot, tree, field);
        List<Entry> strays = unknown(device, plot, tree, field);
        strays.removeAll(candidates);
        if (i < candidates.size()) {
            return 100 * candidates.get(i).author + candidates.get(i).number;
        }
        int j = i - candidates.size();
        return j < strays.size() ? 1000 + 100 * strays.get(j).author + strays.get(j).number : -1;
    }

    int conflict(int device, int i) {
        illegalUnless(in(device, 0, 4) && i >= 0);
        List<Integer> places = new ArrayList<>();
        for (int plot = 0; plot < 6; plot++) {
            for (int tree = 0; tree < 4; tree++) {
                for (int field = 0; field < 3; field++) {
                    if (candidates(device, plot, tree, field).stream().map(e -> e.value).distinct().count() > 1) {
                        places.add(100 * plot + 10 * tree + field);
                    }
                }
            }
        }
        return i < places.size() ? places.get(i) : -1;
    }

    long plot(int device, int plot, int what) {
        illegalUnless(in(device, 0, 4) && in(plot, 0, 5) && in(what, 0, 3));
        long[] sums = new long[4];
        for (int tree = 0; tree < 4; tree++) {
            List<Integer> shown = new ArrayList<>();
            for (int field = 0; field < 3; field++) {
                if (!candidates(device, plot, tree, field).isEmpty()) {
                    shown.add(value(device, plot, tree, field));
                }
            }
            if (shown.size() == 3) {
                int[] set = species[shown.get(0)];
                long diameter = shown.get(1);
                long height = shown.get(2);
                sums[0] += BigInteger.valueOf(diameter).pow(2).multiply(BigInteger.valueOf(height))
                    .multiply(BigInteger.valueOf(set[0])).divide(BigInteger.valueOf(100000)).longValueExact();
                sums[1] += diameter * diameter;
                if (100 * height < set[1] * diameter || 100 * height > set[2] * diameter) {
                    sums[3] += 1L << tree;
                }
            } else if (!shown.isEmpty()) {
                sums[2]++;
            }
        }
        return sums[what];
    }

    long total(int device, int stand, int what) {
        illegalUnless(in(device, 0, 4) && in(stand, 0, 2) && in(what, 0, 3));
        BigInteger sum = BigInteger.ZERO;
        BigInteger squares = BigInteger.ZERO;
        long missing = 0;
        long n = 0;
        for (int plot = 0; plot < 6; plot++) {
            if (stands[plot] == stand) {
                BigInteger v = BigInteger.valueOf(plot(device, plot, 0));
                sum = sum.add(v);
                squares = squares.add(v.pow(2));
                missing += plot(device, plot, 2);
                n++;
            }
        }
        if (what == 1 && n > 1) {
            return BigInteger.valueOf(n).multiply(squares).subtract(sum.pow(2))
                .divide(BigInteger.valueOf(n * (n - 1))).sqrt().longValueExact();
        }
        return new long[] {sum.longValueExact(), 0, missing, n}[what];
    }

    private int writeValue(int device, int plot, int tree, int field, int value, int rank) {
        Entry e = new Entry();
        e.sort = Sort.VALUE;
        e.plot = plot;
        e.tree = tree;
        e.field = field;
        e.value = value;
        e.rank = rank;
        return write(device, e);
    }

    private int write(int device, Entry e) {
        e.author = device;
        e.vector = new int[5];
        for (int other = 0; other < 5; other++) {
            e.vector[other] = known(device, other);
        }
        e.number = e.vector[device] + 1;
        all.add(e);
        known.get(device).add(e);
        keep(device);
        return e.number;
    }

    private void keep(int device) {
        kept.get(device).addAll(known.get(device));
    }

    private boolean carry(int from, int to) {
        Entry first = known.get(from).stream().filter(e -> !known.get(to).contains(e)).min(ORDER).orElse(null);
        return first != null && known.get(to).add(first);
    }

    private List<Entry> values(int device, int plot, int tree, int field) {
        List<Entry> found = new ArrayList<>();
        for (Entry e : known.get(device)) {
            if (e.sort == Sort.VALUE && e.plot == plot && e.tree == tree && e.field == field) {
                found.add(e);
            }
        }
        found.sort(ORDER);
        return found;
    }

    private List<Entry> unknown(int device, int plot, int tree, int field) {
        List<Entry> values = values(device, plot, tree, field);
        List<Entry> left = new ArrayList<>(values);
        left.removeIf(e -> values.stream().anyMatch(o -> o != e && e.number <= o.vector[e.author]));
        return left;
    }

    private List<Entry> candidates(int device, int plot, int tree, int field) {
        List<Entry> left = unknown(device, plot, tree, field);
        int greatest = left.stream().mapToInt(e -> e.rank).max().orElse(0);
        left.removeIf(e -> e.rank != greatest);
        return left;
    }

    private static boolean in(int x, int least, int greatest) {
        return x >= least && x <= greatest;
    }

    private static boolean isField(int plot, int tree, int field) {
        return in(plot, 0, 5) && in(tree, 0, 3) && in(field, 0, 2);
    }

    private static boolean fits(int field, int value) {
        return field == 0 ? in(value, 0, 3) : field == 1 ? in(value, 10, 2000) : in(value, 10, 600);
    }

    private static void illegalUnless(boolean good) {
        if (!good) {
            throw new IllegalArgumentException();
        }
    }

    private static void badStateUnless(boolean good) {
        if (!good) {
            throw new IllegalStateException();
        }
    }
}
