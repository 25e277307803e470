/**
 * What each promise says of arguments: the last value allowed and the first not allowed on both sides, the least and
 * the greatest int. A method for each sentence; every call is made on an object of its own.
 */
public final class ArgumentsTest {
    private static final Due due = new Due();
    private static final int MIN = Integer.MIN_VALUE;
    private static final int MAX = Integer.MAX_VALUE;

    public static void main(String[] args) {
        speciesOfNoSuchSpecies();
        speciesFactorIs1To100();
        speciesLowIs0ToHigh();
        speciesHighIsLowTo1000();
        standOfNoSuchPlot();
        standOfNoSuchStand();
        lendOfNoSuchPlot();
        lendToNoSuchTablet();
        giveBackOfNoSuchTablet();
        giveBackOfNoSuchPlot();
        enterAtNoSuchDevice();
        enterInNoSuchPlotTreeOrField();
        enterOfNoSuchValue();
        resolveOfNoSuchField();
        resolveToNoSuchValue();
        meetOfNoSuchDevice();
        meetOfTheSame();
        crashOfNoSuchDevice();
        knownOfNoSuchDevice();
        holderOfNoSuchDevicePlotOrWhat();
        valueOfNoSuchDevicePlotTreeOrField();
        candidateOfNoSuchDevicePlotTreeOrField();
        candidateBelow0();
        conflictOfNoSuchDevice();
        conflictBelow0();
        plotOfNoSuchDevicePlotOrWhat();
        totalOfNoSuchDeviceStandOrWhat();
        due.end();
    }

    /** Promise 2: "if there is no such species". */
    private static void speciesOfNoSuchSpecies() {
        due.bounds("species(s, 100, 0, 1000)", 0, 3, s -> 15000 + (1000 << s), s -> {
            ForestTablets x = oneTreeOfEachSpecies();
            x.species(s, 100, 0, 1000);
            return x.plot(1, 0, 0);
        });
    }

    /** Promise 2: "the factor is not 1 .. 100". */
    private static void speciesFactorIs1To100() {
        due.bounds("species(2, factor, 0, 1000)", 1, 100, factor -> 11000 + 4000 * factor / 50, factor -> {
            ForestTablets x = oneTreeOfEachSpecies();
            x.species(2, factor, 0, 1000);
            return x.plot(1, 0, 0);
        });
    }

    /** Promise 2: "or not 0 <= low <= high <= 1000", its left side: also for a high of 0, and of 7. */
    private static void speciesLowIs0ToHigh() {
        for (int high : new int[] {0, 7, 1000}) {
            due.bounds("species(1, 50, low, " + high + ")", 0, high, low -> low > 500 || high < 500 ? 1 : 0,
                low -> slender500(low, high));
        }
    }

    /** Promise 2: "or not 0 <= low <= high <= 1000", its right side: also for a low of 7, and of 1000. */
    private static void speciesHighIsLowTo1000() {
        for (int low : new int[] {0, 7, 1000}) {
            due.bounds("species(1, 50, " + low + ", high)", low, 1000, high -> low > 500 || high < 500 ? 1 : 0,
                high -> slender500(low, high));
        }
        refused("low and high below 0", new ForestTablets(), x -> x.species(1, 50, -2, -1));
        refused("low and high above 1000", new ForestTablets(), x -> x.species(1, 50, 1001, 1002));
        refused("the ends of int", new ForestTablets(), x -> x.species(1, 50, MIN, MAX));
        refused("the ends of int, turned round", new ForestTablets(), x -> x.species(1, 50, MAX, MIN));
    }

    /** Promise 3: "if there is no such plot". */
    private static void standOfNoSuchPlot() {
        due.bounds("stand(plot, 2)", 0, 5, plot -> 51, plot -> {
            ForestTablets x = new ForestTablets();
            x.stand(plot, 2);
            return x.total(0, 0, 3) * 10 + x.total(0, 2, 3);
        });
    }

    /** Promise 3: "or stand". */
    private static void standOfNoSuchStand() {
        due.bounds("stand(5, stand)", 0, 2, stand -> stand == 0 ? 6 : 1, stand -> {
            ForestTablets x = new ForestTablets();
            x.stand(5, stand);
            return x.total(0, stand, 3);
        });
    }

    /** Promise 4: "if there is no such plot". */
    private static void lendOfNoSuchPlot() {
        due.bounds("lend(plot, 2)", 0, 5, plot -> 2, plot -> {
            ForestTablets x = new ForestTablets();
            x.lend(plot, 2);
            return x.holder(0, plot, 0);
        });
    }

    /** Promise 4: "or tablet (1 .. 4)": the office is none. */
    private static void lendToNoSuchTablet() {
        due.bounds("lend(3, tablet)", 1, 4, tablet -> tablet, tablet -> {
            ForestTablets x = new ForestTablets();
            x.lend(3, tablet);
            return x.holder(0, 3, 0);
        });
    }

    /** Promise 5: "if there is no such tablet": the office is none. */
    private static void giveBackOfNoSuchTablet() {
        due.bounds("giveBack(tablet, its plot)", 1, 4, tablet -> 1, tablet -> {
            int itsPlot = tablet >= 1 && tablet <= 4 ? tablet : 1;
            return World.eachHoldsItsPlot().giveBack(tablet, itsPlot);
        });
        refused("giveBack(0, 0), that nobody holds", World.eachHoldsItsPlot(), x -> x.giveBack(0, 0));
    }

    /** Promise 5: "or plot". */
    private static void giveBackOfNoSuchPlot() {
        due.bounds("giveBack(1, plot)", 0, 5, plot -> 1, plot -> World.oneHoldsAll().giveBack(1, plot));
    }

    /** Promise 6: "if there is no such device". */
    private static void enterAtNoSuchDevice() {
        due.bounds("enter(device, 5, 3, 2, 600)", 0, 4, device -> 1,
            device -> new ForestTablets().enter(device, 5, 3, 2, 600));
    }

    /** Promise 6: "plot, tree or field". */
    private static void enterInNoSuchPlotTreeOrField() {
        due.bounds("enter(1, plot, 3, 2, 600)", 0, 5, plot -> 600, plot -> {
            ForestTablets x = new ForestTablets();
            x.enter(1, plot, 3, 2, 600);
            return x.value(1, plot, 3, 2);
        });
        due.bounds("enter(1, 0, tree, 2, 600)", 0, 3, tree -> 600, tree -> {
            ForestTablets x = new ForestTablets();
            x.enter(1, 0, tree, 2, 600);
            return x.value(1, 0, tree, 2);
        });
        due.bounds("enter(1, 0, 0, field, what it may be)", 0, 2, field -> field == 0 ? 3 : 10, field -> {
            ForestTablets x = new ForestTablets();
            int value = field == 0 ? 3 : 10;
            x.enter(1, 0, 0, field, value);
            return x.value(1, 0, 0, field);
        });
        refused("a place that would wrap around", new ForestTablets(), x -> x.enter(1, 1, -4, 0, 0));
        refused("a place of the next tree", new ForestTablets(), x -> x.enter(1, 0, 0, 3, 10));
        refused("a place of the tree before", new ForestTablets(), x -> x.enter(1, 0, 1, -1, 10));
        refused("a place of the next plot", new ForestTablets(), x -> x.enter(1, 0, 4, 0, 0));
    }

    /** Promise 6: "or the field has no such value": species 0 .. 3, diameter 10 .. 2000, height 10 .. 600. */
    private static void enterOfNoSuchValue() {
        int[][] bounds = {{0, 3}, {10, 2000}, {10, 600}};
        for (int f = 0; f < 3; f++) {
            int field = f;
            due.bounds("enter(1, 5, 3, " + field + ", value)", bounds[field][0], bounds[field][1], value -> value,
                value -> {
                    ForestTablets x = new ForestTablets();
                    x.enter(1, 5, 3, field, value);
                    return x.value(1, 5, 3, field);
                });
        }
    }

    /** Promise 7: "NoSuchElementException if there is none": below 0, behind the last, at the ends of int. */
    private static void resolveOfNoSuchField() {
        for (int i : Due.beside(0, 1)) {
            due.noElement("resolve(" + i + ", 22)", () -> World.inConflict(1, 532).resolve(i, 22));
            due.noElement("resolve(" + i + ", 9)", () -> World.inConflict(1, 532).resolve(i, 9));
        }
        due.is("resolve(0, 22)", 22, () -> afterResolving(0, 22).value(0, 0, 0, 1));
        due.is("resolve(1, 22)", 22, () -> afterResolving(1, 22).value(0, 5, 3, 2));
        due.is("resolve(0, 22) leaves the other", 532, () -> afterResolving(0, 22).conflict(0, 0));
        due.is("resolve(1, 22) leaves the other", 1, () -> afterResolving(1, 22).conflict(0, 0));
    }

    /** Promise 7: "IllegalArgumentException if the field has no such value": by the field in conflict. */
    private static void resolveToNoSuchValue() {
        int[][] bounds = {{0, 3}, {10, 2000}, {10, 600}};
        for (int f = 0; f < 3; f++) {
            int field = f;
            due.bounds("resolve(0, value) of field " + field, bounds[field][0], bounds[field][1], value -> value,
                value -> {
                    ForestTablets x = World.inConflict(530 + field);
                    x.resolve(0, value);
                    return x.value(0, 5, 3, field);
                });
        }
        due.is("the second field's bounds", 2000, () -> {
            ForestTablets x = World.inConflict(0, 1, 2);
            x.resolve(1, 2000);
            return x.value(0, 0, 0, 1);
        });
        refused("the second field's bounds", World.inConflict(0, 1, 2), x -> x.resolve(1, 3));
        refused("the third field's bounds", World.inConflict(0, 1, 2), x -> x.resolve(2, 2000));
    }

    /** Promise 8: "if there is no such device". */
    private static void meetOfNoSuchDevice() {
        due.bounds("meet(a, 0)", 1, 4, a -> 1, a -> carriesFrom(a, 0));
        due.bounds("meet(0, b)", 1, 4, b -> 1, b -> carriesFrom(0, b));
        due.bounds("meet(a, 4)", 0, 3, a -> 1, a -> carriesFrom(a, 4));
        due.bounds("meet(4, b)", 0, 3, b -> 1, b -> carriesFrom(4, b));
        refused("neither", new ForestTablets(), x -> x.meet(-1, 5));
        refused("neither", new ForestTablets(), x -> x.meet(MIN, MAX));
    }

    /** Promise 8: "or they are the same": also if there is no such device. */
    private static void meetOfTheSame() {
        for (int d : new int[] {MIN, -1, 0, 1, 2, 3, 4, 5, MAX}) {
            refused("meet(" + d + ", " + d + ")", new ForestTablets(), x -> x.meet(d, d));
        }
    }

    /** Promise 11: "if there is no such device". */
    private static void crashOfNoSuchDevice() {
        due.bounds("crash(device) with one entry of its own", 0, 4, device -> 1, device -> {
            ForestTablets x = oneEntryOfEach();
            x.crash(device);
            return x.known(device, device);
        });
    }

    /** Promise 12: "if there is no such device", of both. */
    private static void knownOfNoSuchDevice() {
        due.bounds("known(device, 4)", 0, 4, device -> device == 4 ? 1 : 0, device -> oneEntryOfEach().known(device, 4));
        due.bounds("known(0, other)", 0, 4, other -> other == 0 ? 1 : 0, other -> oneEntryOfEach().known(0, other));
        refused("neither", oneEntryOfEach(), x -> x.known(MAX, MIN));
    }

    /** Promise 13: "if there is no such device or plot, or what is not 0 (the holder), 1 (the number)". */
    private static void holderOfNoSuchDevicePlotOrWhat() {
        for (int w = 0; w < 2; w++) {
            int what = w;
            due.bounds("holder(device, 1, " + what + ")", 0, 4, device -> 1,
                device -> World.eachHoldsItsPlot().holder(device, 1, what));
            due.bounds("holder(0, plot, " + what + ")", 0, 5,
                plot -> plot == 0 || plot == 5 ? what - 1 : what == 0 ? plot : 1,
                plot -> World.eachHoldsItsPlot().holder(0, plot, what));
        }
        due.bounds("holder(4, 3, what)", 0, 1, what -> what == 0 ? 3 : 1,
            what -> World.eachHoldsItsPlot().holder(4, 3, what));
    }

    /** Promise 14: "if there is no such device, plot, tree or field". */
    private static void valueOfNoSuchDevicePlotTreeOrField() {
        eachPlace("value", (x, a) -> x.value(a[0], a[1], a[2], a[3]), new int[] {3, 10, 10});
    }

    /** Promise 15: "if there is no such device, plot, tree or field". */
    private static void candidateOfNoSuchDevicePlotTreeOrField() {
        eachPlace("candidate", (x, a) -> x.candidate(a[0], a[1], a[2], a[3], 0), null);
        eachPlace("candidate far behind", (x, a) -> {
            x.candidate(a[0], a[1], a[2], a[3], MAX);
            return x.candidate(a[0], a[1], a[2], a[3], 0);
        }, null);
    }

    /** Promise 15: "or i is below 0"; "-1 if there are not so many". */
    private static void candidateBelow0() {
        due.from0("candidate(0, 5, 3, 2, i)", i -> i == 0 ? 101 : i == 1 ? 201 : -1,
            i -> World.inConflict(532).candidate(0, 5, 3, 2, i));
        due.from0("candidate(3, 0, 0, 0, i) of nothing", i -> -1,
            i -> new ForestTablets().candidate(3, 0, 0, 0, i));
    }

    /** Promise 16: "if there is no such device". */
    private static void conflictOfNoSuchDevice() {
        due.bounds("conflict(device, 0)", 0, 4, device -> device == 0 || device == 2 ? 532 : -1,
            device -> World.inConflict(532).conflict(device, 0));
    }

    /** Promise 16: "or i is below 0"; "-1 if there are not so many". */
    private static void conflictBelow0() {
        due.from0("conflict(0, i)", i -> i == 0 ? 1 : i == 1 ? 532 : -1, i -> World.inConflict(1, 532).conflict(0, i));
        due.from0("conflict(3, i) of nothing", i -> -1, i -> new ForestTablets().conflict(3, i));
    }

    /** Promise 17: "if there is no such device, plot or what". */
    private static void plotOfNoSuchDevicePlotOrWhat() {
        for (int w = 0; w < 4; w++) {
            int what = w;
            due.bounds("plot(device, 5, " + what + ")", 0, 4, device -> device == 1 ? inPlot5(what) : 0,
                device -> twoTreesInPlot5().plot(device, 5, what));
            due.bounds("plot(1, plot, " + what + ")", 0, 5, plot -> plot == 5 ? inPlot5(what) : 0,
                plot -> twoTreesInPlot5().plot(1, plot, what));
        }
        due.bounds("plot(1, 5, what)", 0, 3, what -> inPlot5(what), what -> twoTreesInPlot5().plot(1, 5, what));
    }

    /** Promise 18: "if there is no such device, stand or what". */
    private static void totalOfNoSuchDeviceStandOrWhat() {
        for (int w = 0; w < 4; w++) {
            int what = w;
            due.bounds("total(device, 2, " + what + ")", 0, 4, device -> inStand2(device == 1, what),
                device -> twoTreesInPlot5().total(device, 2, what));
            due.bounds("total(1, stand, " + what + ")", 0, 2,
                stand -> stand == 2 ? inStand2(true, what) : stand == 0 && what == 3 ? 4 : 0,
                stand -> twoTreesInPlot5().total(1, stand, what));
        }
        due.bounds("total(1, 2, what)", 0, 3, what -> inStand2(true, what), what -> twoTreesInPlot5().total(1, 2, what));
    }

    private interface Place {
        long at(ForestTablets x, int[] arguments);
    }

    /** Each of device, plot, tree and field goes over its bounds, beside the others at their greatest. */
    private static void eachPlace(String call, Place asking, int[] values) {
        int[] greatest = {4, 5, 3, 2};
        for (int k = 0; k < 4; k++) {
            int open = k;
            due.bounds(call + ", argument " + open, 0, greatest[open],
                i -> values == null ? (open == 0 ? i : 4) * 100 + 1 : values[open == 3 ? i : 2],
                i -> asking.at(oneEntryAround(open, i), put(greatest, open, i)));
        }
    }

    /** An object whose only entry stands at the place that is asked for, if there is such a place. */
    private static ForestTablets oneEntryAround(int open, int i) {
        ForestTablets x = new ForestTablets();
        int[] greatest = {4, 5, 3, 2};
        if (i >= 0 && i <= greatest[open]) {
            int[] a = put(greatest, open, i);
            x.enter(a[0], a[1], a[2], a[3], a[3] == 0 ? 3 : 10);
        } else {
            x.enter(4, 5, 3, 2, 10);
        }
        return x;
    }

    private static int[] put(int[] row, int place, int value) {
        int[] changed = row.clone();
        changed[place] = value;
        return changed;
    }

    private static ForestTablets oneEntryOfEach() {
        ForestTablets x = new ForestTablets();
        for (int device = 0; device < 5; device++) {
            x.enter(device, 5, 3, 2, 600);
        }
        return x;
    }

    /** Whether the first of the two gives the second its entry. */
    private static long carriesFrom(int a, int b) {
        ForestTablets x = oneEntryOfEach();
        x.meet(a, b);
        x.swap();
        return x.known(b, a);
    }

    private static ForestTablets afterResolving(int i, int value) {
        ForestTablets x = World.inConflict(1, 532);
        x.resolve(i, value);
        return x;
    }

    /** Tree s of plot 0 is of species s and has a volume of 1000 << s by factor 50: 15000 in all. */
    private static ForestTablets oneTreeOfEachSpecies() {
        ForestTablets x = new ForestTablets();
        int[][] size = {{100, 200}, {100, 400}, {200, 200}, {200, 400}};
        for (int s = 0; s < 4; s++) {
            World.tree(x, 0, s, s, size[s][0], size[s][1]);
        }
        return x;
    }

    /** Whether a tree with 100 * height at 500 * diameter is implausible by these bounds. */
    private static long slender500(int low, int high) {
        ForestTablets x = new ForestTablets();
        World.tree(x, 0, 0, 1, 100, 500);
        x.species(1, 50, low, high);
        return x.plot(1, 0, 3);
    }

    /** Plot 5, of stand 2 like plot 4, has at tablet 1 an implausible tree 3 and a missing tree 0. */
    private static ForestTablets twoTreesInPlot5() {
        ForestTablets x = new ForestTablets();
        World.tree(x, 5, 3, 0, 100, 600);
        x.enter(1, 5, 0, 0, 0);
        x.stand(4, 2);
        x.stand(5, 2);
        return x;
    }

    private static long inPlot5(int what) {
        return new long[] {3000, 10000, 1, 0b1000}[what];
    }

    private static long inStand2(boolean isShown, int what) {
        return isShown ? new long[] {3000, 2121, 1, 2}[what] : new long[] {0, 0, 0, 2}[what];
    }

    private interface Call {
        void on(ForestTablets x);
    }

    private static void refused(String call, ForestTablets x, Call asking) {
        due.illegal(call, () -> asking.on(x));
    }
}
