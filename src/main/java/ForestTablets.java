import java.util.NoSuchElementException;

/** Tablets of a forest inventory; the numbered promises it keeps stand in the document DOC.md. */
public final class ForestTablets {
    private static final int OFFICE = 0;
    private static final int DEVICES = 5;
    private static final int PLOTS = 6;
    private static final int TREES = 4;
    private static final int FIELDS = 3;
    private static final int SPOTS = PLOTS * TREES * FIELDS;
    private static final int KINDS = 4;
    private static final int STANDS = 3;
    private static final int MOST_ENTRIES = 40;
    private static final int NOBODY = -1;
    private static final int NO_MORE = -1;

    private static final int KIND = 0;
    private static final int DIAMETER = 1;
    private static final int HEIGHT = 2;
    private static final int[] LEAST_VALUE = {0, 10, 10};
    private static final int[] GREATEST_VALUE = {3, 2000, 600};

    private static final int MOST_FACTOR = 100;
    private static final int MOST_SLENDER = 1000;
    private static final int FIRST_FACTOR = 50;
    private static final int FIRST_LOW = 20;
    private static final int FIRST_HIGH = 200;

    private final Crew crew = new Crew();
    private final Lending lending = new Lending();
    private final Notebook notebook = new Notebook();
    private final Tariff tariff = new Tariff();
    private final PlotSums sums = new PlotSums();
    private final StandSums standSums = new StandSums();
    private final int[] standOf = new int[PLOTS];
    private final int[] shownFields = new int[FIELDS];

    public ForestTablets() {
    }

    public void species(int s, int factor, int low, int high) throws IllegalArgumentException {
        require(isBelow(s, KINDS));
        require(factor >= 1 && factor <= MOST_FACTOR);
        require(0 <= low && low <= high && high <= MOST_SLENDER);
        tariff.factor[s] = factor;
        tariff.low[s] = low;
        tariff.high[s] = high;
    }

    public void stand(int plot, int stand) throws IllegalArgumentException {
        require(isBelow(plot, PLOTS) && isBelow(stand, STANDS));
        standOf[plot] = stand;
    }

    public int lend(int plot, int tablet) throws IllegalArgumentException, IllegalStateException {
        require(isBelow(plot, PLOTS) && isTablet(tablet));
        allow(lending.holderOf(plot, crew.known[OFFICE]) == NOBODY);
        allow(crew.hasRoom(OFFICE));
        return lending.addLend(plot, tablet, crew.addEntry(OFFICE));
    }

    public int giveBack(int tablet, int plot) throws IllegalArgumentException, IllegalStateException {
        require(isTablet(tablet) && isBelow(plot, PLOTS));
        Lend lent = lending.lastKnown(plot, crew.known[tablet]);
        allow(lending.holderOf(plot, crew.known[tablet]) == tablet);
        allow(crew.hasRoom(tablet));
        int number = crew.addEntry(tablet);
        if (lent != null) {
            lent.back = number;
        }
        return number;
    }

    public int enter(int device, int plot, int tree, int field, int value)
            throws IllegalArgumentException, IllegalStateException {
        require(isBelow(device, DEVICES) && isField(plot, tree, field));
        require(fieldAllows(field, value));
        allow(crew.hasRoom(device));
        return write(device, spotOf(plot, tree, field), value, rankFor(device, plot));
    }

    public int resolve(int i, int value)
            throws NoSuchElementException, IllegalArgumentException, IllegalStateException {
        int spot = spotInConflict(OFFICE, i);
        if (spot == NO_MORE) {
            throw new NoSuchElementException();
        }
        require(fieldAllows(spot % FIELDS, value));
        allow(crew.hasRoom(OFFICE));
        return write(OFFICE, spot, value, notebook.greatestRank(spot, crew.known[OFFICE]) + 1);
    }

    public void meet(int a, int b) throws IllegalArgumentException, IllegalStateException {
        require(isBelow(a, DEVICES) && isBelow(b, DEVICES) && a != b);
        allow(!crew.isMeeting());
        crew.first = a;
        crew.second = b;
    }

    public boolean swap() throws IllegalStateException {
        allow(crew.isMeeting());
        return crew.carry(crew.first, crew.second) || crew.carry(crew.second, crew.first);
    }

    public void part() throws IllegalStateException {
        allow(crew.isMeeting());
        crew.endMeeting();
    }

    public void crash(int device) throws IllegalArgumentException {
        require(isBelow(device, DEVICES));
        // Forgetting comes first: the end of a meeting would let the crashed device keep all, too.
        crew.forget(device);
        if (device == crew.first || device == crew.second) {
            crew.endMeeting();
        }
    }

    public int known(int device, int other) throws IllegalArgumentException {
        require(isBelow(device, DEVICES) && isBelow(other, DEVICES));
        return crew.known[device][other];
    }

    public int holder(int device, int plot, int what) throws IllegalArgumentException {
        require(isBelow(device, DEVICES) && isBelow(plot, PLOTS) && isBelow(what, 2));
        if (what == 0) {
            return lending.holderOf(plot, crew.known[device]);
        }
        return lending.numberOf(plot, crew.known[device]);
    }

    public int value(int device, int plot, int tree, int field)
            throws IllegalArgumentException, NoSuchElementException {
        require(isBelow(device, DEVICES) && isField(plot, tree, field));
        notebook.open(spotOf(plot, tree, field), crew.known[device]);
        Measure shown = notebook.shownMeasure();
        if (shown == null) {
            throw new NoSuchElementException();
        }
        return shown.value;
    }

    public int candidate(int device, int plot, int tree, int field, int i) throws IllegalArgumentException {
        require(isBelow(device, DEVICES) && isField(plot, tree, field) && i >= 0);
        notebook.open(spotOf(plot, tree, field), crew.known[device]);
        return notebook.codeAt(i);
    }

    public int conflict(int device, int i) throws IllegalArgumentException {
        require(isBelow(device, DEVICES) && i >= 0);
        int spot = spotInConflict(device, i);
        if (spot == NO_MORE) {
            return NO_MORE;
        }
        int tree = spot / FIELDS;
        return 100 * (tree / TREES) + 10 * (tree % TREES) + spot % FIELDS;
    }

    public long plot(int device, int plot, int what) throws IllegalArgumentException {
        require(isBelow(device, DEVICES) && isBelow(plot, PLOTS) && isBelow(what, 4));
        reckonPlot(device, plot);
        switch (what) {
            case 0:
                return sums.volume;
            case 1:
                return sums.squares;
            case 2:
                return sums.missing;
            default:
                return sums.implausible;
        }
    }

    public long total(int device, int stand, int what) throws IllegalArgumentException {
        require(isBelow(device, DEVICES) && isBelow(stand, STANDS) && isBelow(what, 4));
        reckonStand(device, stand);
        switch (what) {
            case 0:
                return standSums.volume;
            case 1:
                return standSums.error();
            case 2:
                return standSums.missing;
            default:
                return standSums.plots;
        }
    }

    private static void require(boolean argumentIsGood) {
        if (!argumentIsGood) {
            throw new IllegalArgumentException();
        }
    }

    private static void allow(boolean stateIsGood) {
        if (!stateIsGood) {
            throw new IllegalStateException();
        }
    }

    private static boolean isBelow(int index, int count) {
        return index >= 0 && index < count;
    }

    private static boolean isTablet(int device) {
        return device != OFFICE && isBelow(device, DEVICES);
    }

    private static boolean isField(int plot, int tree, int field) {
        return isBelow(plot, PLOTS) && isBelow(tree, TREES) && isBelow(field, FIELDS);
    }

    private static boolean fieldAllows(int field, int value) {
        return value >= LEAST_VALUE[field] && value <= GREATEST_VALUE[field];
    }

    /** Spots number the fields of all trees by plot, tree, field. */
    private static int spotOf(int plot, int tree, int field) {
        return (plot * TREES + tree) * FIELDS + field;
    }

    private int rankFor(int device, int plot) {
        int[] known = crew.known[device];
        return lending.holderOf(plot, known) == device ? lending.numberOf(plot, known) : 0;
    }

    private int write(int device, int spot, int value, int rank) {
        // The vector is taken before the entry is counted: of its own, the author knew those before it.
        int[] vector = crew.known[device].clone();
        int number = crew.addEntry(device);
        notebook.add(spot, device, number, value, rank, vector);
        return number;
    }

    private int spotInConflict(int device, int i) {
        int before = 0;
        for (int spot = 0; spot < SPOTS; spot++) {
            notebook.open(spot, crew.known[device]);
            if (notebook.isInConflict()) {
                if (before == i) {
                    return spot;
                }
                before++;
            }
        }
        return NO_MORE;
    }

    private void reckonStand(int device, int stand) {
        standSums.clear();
        for (int plot = 0; plot < PLOTS; plot++) {
            if (standOf[plot] == stand) {
                reckonPlot(device, plot);
                standSums.add(sums);
            }
        }
    }

    private void reckonPlot(int device, int plot) {
        sums.clear();
        for (int tree = 0; tree < TREES; tree++) {
            int found = readTree(device, plot, tree);
            if (found == FIELDS) {
                sums.addTree(tree, shownFields, tariff);
            } else if (found > 0) {
                sums.missing++;
            }
        }
    }

    /** Fills the row of shown fields and tells how many of them are shown. */
    private int readTree(int device, int plot, int tree) {
        int found = 0;
        for (int field = 0; field < FIELDS; field++) {
            notebook.open(spotOf(plot, tree, field), crew.known[device]);
            Measure shown = notebook.shownMeasure();
            if (shown != null) {
                shownFields[field] = shown.value;
                found++;
            }
        }
        return found;
    }

    /** What each device knows and has kept, as counts by author, and the meeting under way. */
    private static final class Crew {
        final int[][] known = new int[DEVICES][DEVICES];
        final int[][] kept = new int[DEVICES][DEVICES];
        int first = NOBODY;
        int second = NOBODY;

        boolean isMeeting() {
            return first != NOBODY;
        }

        boolean hasRoom(int device) {
            return known[device][device] < MOST_ENTRIES;
        }

        /** Counts a new entry of a device, of any kind, and tells its number. */
        int addEntry(int device) {
            known[device][device]++;
            keepAll(device);
            return known[device][device];
        }

        boolean carry(int from, int to) {
            for (int author = 0; author < DEVICES; author++) {
                if (known[to][author] < known[from][author]) {
                    known[to][author]++;
                    return true;
                }
            }
            return false;
        }

        void endMeeting() {
            keepAll(first);
            keepAll(second);
            first = NOBODY;
            second = NOBODY;
        }

        void keepAll(int device) {
            System.arraycopy(known[device], 0, kept[device], 0, DEVICES);
        }

        void forget(int device) {
            System.arraycopy(kept[device], 0, known[device], 0, DEVICES);
        }
    }

    /** One lend of a plot. */
    private static final class Lend {
        final int number;
        final int entry;
        final int tablet;
        final Lend earlier;
        /** The number of the tablet's entry that gave the plot back, 0 while there is none. */
        int back;

        Lend(int number, int entry, int tablet, Lend earlier) {
            this.number = number;
            this.entry = entry;
            this.tablet = tablet;
            this.earlier = earlier;
        }
    }

    /** The lends of all plots, as a chain for each from the newest to the oldest. */
    private static final class Lending {
        private final Lend[] newest = new Lend[PLOTS];

        int addLend(int plot, int tablet, int entry) {
            Lend before = newest[plot];
            int number = before == null ? 1 : before.number + 1;
            newest[plot] = new Lend(number, entry, tablet, before);
            return number;
        }

        Lend lastKnown(int plot, int[] known) {
            for (Lend lent = newest[plot]; lent != null; lent = lent.earlier) {
                if (lent.entry <= known[OFFICE]) {
                    return lent;
                }
            }
            return null;
        }

        int numberOf(int plot, int[] known) {
            Lend lent = lastKnown(plot, known);
            return lent == null ? 0 : lent.number;
        }

        int holderOf(int plot, int[] known) {
            Lend lent = lastKnown(plot, known);
            if (lent == null) {
                return NOBODY;
            }
            // Only the tablet of a lend can give it back, and once: a look at that one entry is enough.
            boolean knowsBack = lent.back != 0 && lent.back <= known[lent.tablet];
            return knowsBack ? NOBODY : lent.tablet;
        }
    }

    /** One entered value of a field. */
    private static final class Measure {
        final int author;
        final int number;
        final int value;
        final int rank;
        final int[] vector;
        final Measure earlier;

        Measure(int author, int number, int value, int rank, int[] vector, Measure earlier) {
            this.author = author;
            this.number = number;
            this.value = value;
            this.rank = rank;
            this.vector = vector;
            this.earlier = earlier;
        }

        boolean knew(Measure other) {
            return other.number <= vector[other.author];
        }
    }

    /** All values, as a chain for each spot and author, and the page of the field last opened. */
    private static final class Notebook {
        private final Measure[] newest = new Measure[SPOTS * DEVICES];
        private final Measure[] lastOfAuthor = new Measure[DEVICES];
        private final Measure[] unseen = new Measure[DEVICES];
        private final Measure[] listed = new Measure[DEVICES];
        private int candidates;
        private int size;

        void add(int spot, int author, int number, int value, int rank, int[] vector) {
            int chain = spot * DEVICES + author;
            newest[chain] = new Measure(author, number, value, rank, vector, newest[chain]);
        }

        int greatestRank(int spot, int[] known) {
            int greatest = 0;
            for (int author = 0; author < DEVICES; author++) {
                for (Measure m = lastKnown(spot, author, known); m != null; m = m.earlier) {
                    greatest = Math.max(greatest, m.rank);
                }
            }
            return greatest;
        }

        /** Lists a field's candidates and strays by what a device knows. */
        void open(int spot, int[] known) {
            // An author's newest known value knew all that its older ones knew, and them, too:
            // so the newest ones alone can be listed, and alone decide what is.
            for (int author = 0; author < DEVICES; author++) {
                lastOfAuthor[author] = lastKnown(spot, author, known);
            }
            int top = 0;
            for (int author = 0; author < DEVICES; author++) {
                Measure m = lastOfAuthor[author];
                boolean isUnseen = m != null && !isKnownToAnother(m);
                unseen[author] = isUnseen ? m : null;
                if (isUnseen) {
                    top = Math.max(top, m.rank);
                }
            }
            size = 0;
            listByRank(top, true);
            candidates = size;
            listByRank(top, false);
        }

        Measure shownMeasure() {
            return candidates == 0 ? null : listed[candidates - 1];
        }

        boolean isInConflict() {
            for (int i = 1; i < candidates; i++) {
                if (listed[i].value != listed[0].value) {
                    return true;
                }
            }
            return false;
        }

        int codeAt(int i) {
            if (i >= size) {
                return NO_MORE;
            }
            int code = 100 * listed[i].author + listed[i].number;
            return i < candidates ? code : code + 1000;
        }

        private Measure lastKnown(int spot, int author, int[] known) {
            for (Measure m = newest[spot * DEVICES + author]; m != null; m = m.earlier) {
                if (m.number <= known[author]) {
                    return m;
                }
            }
            return null;
        }

        private boolean isKnownToAnother(Measure m) {
            for (int author = 0; author < DEVICES; author++) {
                Measure other = lastOfAuthor[author];
                if (other != null && other != m && other.knew(m)) {
                    return true;
                }
            }
            return false;
        }

        private void listByRank(int top, boolean ofTopRank) {
            for (int author = 0; author < DEVICES; author++) {
                Measure m = unseen[author];
                if (m != null && (m.rank == top) == ofTopRank) {
                    listed[size] = m;
                    size++;
                }
            }
        }
    }

    /** What is set for each species: the factor and the bounds of a plausible height. */
    private static final class Tariff {
        final int[] factor = new int[KINDS];
        final int[] low = new int[KINDS];
        final int[] high = new int[KINDS];

        Tariff() {
            for (int kind = 0; kind < KINDS; kind++) {
                factor[kind] = FIRST_FACTOR;
                low[kind] = FIRST_LOW;
                high[kind] = FIRST_HIGH;
            }
        }

        long volumeOf(int kind, long diameter, long height) {
            return diameter * diameter * height * factor[kind] / 100000;
        }

        boolean isImplausible(int kind, int diameter, int height) {
            return 100 * height < low[kind] * diameter || 100 * height > high[kind] * diameter;
        }
    }

    /** What is reckoned of one plot. */
    private static final class PlotSums {
        long volume;
        long squares;
        int missing;
        int implausible;

        void clear() {
            volume = 0;
            squares = 0;
            missing = 0;
            implausible = 0;
        }

        void addTree(int tree, int[] fields, Tariff tariff) {
            int kind = fields[KIND];
            int diameter = fields[DIAMETER];
            int height = fields[HEIGHT];
            volume += tariff.volumeOf(kind, diameter, height);
            squares += (long) diameter * diameter;
            if (tariff.isImplausible(kind, diameter, height)) {
                implausible |= 1 << tree;
            }
        }
    }

    /** What is reckoned of one stand. */
    private static final class StandSums {
        long volume;
        long volumeSquares;
        int missing;
        int plots;

        void clear() {
            volume = 0;
            volumeSquares = 0;
            missing = 0;
            plots = 0;
        }

        void add(PlotSums sums) {
            volume += sums.volume;
            volumeSquares += sums.volume * sums.volume;
            missing += sums.missing;
            plots++;
        }

        long error() {
            if (plots < 2) {
                return 0;
            }
            long n = plots;
            return rootOf((n * volumeSquares - volume * volume) / (n * (n - 1)));
        }

        /** The greatest whole number whose square is not above; the errors stay far below 2^31. */
        private static long rootOf(long square) {
            long root = 0;
            for (int bit = 30; bit >= 0; bit--) {
                long next = root + (1L << bit);
                if (next * next <= square) {
                    root = next;
                }
            }
            return root;
        }
    }
}
