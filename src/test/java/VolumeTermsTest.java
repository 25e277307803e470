/** The sentences of the Terms on volumes, stands and errors that name a boundary: a method for each. */
public final class VolumeTermsTest {
    private static final Due due = new Due();

    public static void main(String[] args) {
        theRestOfAVolumeIsDropped();
        theLeastAndTheGreatestVolume();
        volumesAreDroppedByTreeNotByPlot();
        aVolumeGoesByItsSpeciesFactor();
        aTreeNeedsAllThreeFields();
        factorLowAndHighAtFirst();
        atLowIsPlausible();
        atHighIsPlausible();
        lowAndHighAtTheirEnds();
        eachTreeHasItsBit();
        plotsAndStandsAreReckonedApart();
        allPlotsAreOfStand0AtFirst();
        aStandWithoutPlots();
        theErrorOfFewerThanTwoPlots();
        theErrorOfTwoToSixPlots();
        theErrorOfAWholeRoot();
        theErrorBelowAWholeRoot();
        theRestOfTheErrorIsDropped();
        theGreatestTotalAndErrors();
        due.end();
    }

    /** "(the rest is dropped)": rests of 0, 99999, 99997, and just above a whole volume. */
    private static void theRestOfAVolumeIsDropped() {
        due.is("100000 / 100000", 1, () -> volumeOf(100, 10, 1));
        due.is("99997 / 100000", 0, () -> volumeOf(19, 277, 1));
        due.is("499999 / 100000", 4, () -> volumeOf(127, 31, 1));
        due.is("24099999 / 100000", 240, () -> volumeOf(323, 231, 1));
        due.is("79181199999 / 100000", 791811, () -> volumeOf(1207, 549, 99));
        due.is("600000 / 100000", 6, () -> volumeOf(100, 60, 1));
        due.is("610000 / 100000", 6, () -> volumeOf(100, 61, 1));
    }

    private static void theLeastAndTheGreatestVolume() {
        due.is("1000 / 100000", 0, () -> volumeOf(10, 10, 1));
        due.is("100000 / 100000", 1, () -> volumeOf(10, 10, 100));
        due.is("above the greatest int before it is divided", 2400000, () -> volumeOf(2000, 600, 100));
        due.is("2000 high", 24000, () -> volumeOf(2000, 600, 1));
        due.is("2000 thick", 40000, () -> volumeOf(2000, 10, 100));
        due.is("10 thick", 60, () -> volumeOf(10, 600, 100));
    }

    /** Four trees of 9.7 each have 36, not 38. */
    private static void volumesAreDroppedByTreeNotByPlot() {
        ForestTablets x = new ForestTablets();
        x.species(3, 1, 0, 1000);
        for (int t = 0; t < 4; t++) {
            World.tree(x, 0, t, 3, 99, 99);
        }
        due.is("9 four times", 36, () -> x.plot(1, 0, 0));
        due.is("in the stand", 36, () -> x.total(1, 0, 0));
        due.is("squares", 4 * 9801, () -> x.plot(1, 0, 1));
    }

    private static void aVolumeGoesByItsSpeciesFactor() {
        for (int s = 0; s < 4; s++) {
            int kind = s;
            ForestTablets x = new ForestTablets();
            for (int other = 0; other < 4; other++) {
                x.species(other, other == kind ? 7 : 100, 0, 1000);
            }
            World.tree(x, 0, 0, kind, 100, 100);
            due.is("species " + kind, 70, () -> x.plot(1, 0, 0));
        }
    }

    /** "all three fields"; "A tree with one or two of them is MISSING": each set of fields, in each tree. */
    private static void aTreeNeedsAllThreeFields() {
        for (int t = 0; t < 4; t++) {
            for (int set = 0; set < 8; set++) {
                ForestTablets x = new ForestTablets();
                for (int field = 0; field < 3; field++) {
                    if ((set >> field & 1) != 0) {
                        x.enter(1, 5, t, field, field == 0 ? 0 : 100);
                    }
                }
                String fields = "tree " + t + ", fields as bits " + set;
                boolean isWhole = set == 7;
                boolean isMissing = set != 0 && set != 7;
                due.is("volume of " + fields, isWhole ? 500 : 0, () -> x.plot(1, 5, 0));
                due.is("squares of " + fields, isWhole ? 10000 : 0, () -> x.plot(1, 5, 1));
                due.is("missing of " + fields, isMissing ? 1 : 0, () -> x.plot(1, 5, 2));
                due.is("implausible of " + fields, 0, () -> x.plot(1, 5, 3));
                due.is("missing in the stand of " + fields, isMissing ? 1 : 0, () -> x.total(1, 0, 2));
            }
        }
    }

    /** Promise 1: "factors 50, LOW 20, HIGH 200 for all species": below, at and above both. */
    private static void factorLowAndHighAtFirst() {
        for (int s = 0; s < 4; s++) {
            int kind = s;
            ForestTablets x = new ForestTablets();
            int[] heights = {19, 20, 200, 201};
            for (int t = 0; t < 4; t++) {
                World.tree(x, 0, t, kind, 100, heights[t]);
            }
            due.is("implausible, species " + kind, 0b1001, () -> x.plot(1, 0, 3));
            due.is("volumes, species " + kind, 95 + 100 + 1000 + 1005, () -> x.plot(1, 0, 0));
        }
    }

    /** "below LOW * diameter": just below, at, just above. */
    private static void atLowIsPlausible() {
        due.is("2000 against 3 * 667 = 2001", 1, () -> implausible(667, 20, 3, 1000));
        due.is("3000 against 3 * 1000", 0, () -> implausible(1000, 30, 3, 1000));
        due.is("2000 against 3 * 666 = 1998", 0, () -> implausible(666, 20, 3, 1000));
    }

    /** "or above HIGH * diameter": just above, at, just below. */
    private static void atHighIsPlausible() {
        due.is("1000 against 3 * 333 = 999", 1, () -> implausible(333, 10, 0, 3));
        due.is("3000 against 3 * 1000", 0, () -> implausible(1000, 30, 0, 3));
        due.is("1000 against 3 * 334 = 1002", 0, () -> implausible(334, 10, 0, 3));
    }

    private static void lowAndHighAtTheirEnds() {
        due.is("0 and 0: the lowest", 1, () -> implausible(2000, 10, 0, 0));
        due.is("0 and 1: the lowest", 0, () -> implausible(2000, 10, 0, 1));
        due.is("1000 and 1000: at both", 0, () -> implausible(10, 100, 1000, 1000));
        due.is("1000 and 1000: below", 1, () -> implausible(10, 99, 1000, 1000));
        due.is("1000 and 1000: above", 1, () -> implausible(10, 101, 1000, 1000));
        due.is("1000 and 1000: far below", 1, () -> implausible(2000, 600, 1000, 1000));
        due.is("0 and 1000: far above", 1, () -> implausible(10, 600, 0, 1000));
        due.is("0 and 1000: anything low", 0, () -> implausible(2000, 10, 0, 1000));
        due.is("at both", 0, () -> implausible(100, 20, 20, 20));
    }

    /** Promise 17: "(as bits, tree t bit t)": each tree alone, none, all four. */
    private static void eachTreeHasItsBit() {
        for (int b = 0; b < 16; b++) {
            int bits = b;
            ForestTablets x = new ForestTablets();
            for (int t = 0; t < 4; t++) {
                World.tree(x, 4, t, 0, 100, (bits >> t & 1) != 0 ? 201 : 200);
            }
            due.is("implausible", bits, () -> x.plot(1, 4, 3));
            due.is("none missing", 0, () -> x.plot(1, 4, 2));
        }
    }

    /** What was asked before leaves nothing in what is asked next. */
    private static void plotsAndStandsAreReckonedApart() {
        ForestTablets x = new ForestTablets();
        for (int plot = 0; plot < 3; plot++) {
            World.tree(x, plot, plot, 0, 100, 201);
            x.enter(1, plot, 3, 0, 0);
            x.stand(plot, plot);
        }
        for (int round = 0; round < 2; round++) {
            for (int p = 0; p < 6; p++) {
                int plot = p;
                boolean isBare = plot > 2;
                due.is("volume", isBare ? 0 : 1005, () -> x.plot(1, plot, 0));
                due.is("squares", isBare ? 0 : 10000, () -> x.plot(1, plot, 1));
                due.is("missing", isBare ? 0 : 1, () -> x.plot(1, plot, 2));
                due.is("implausible", isBare ? 0 : 1 << plot, () -> x.plot(1, plot, 3));
            }
            for (int s = 0; s < 3; s++) {
                int stand = s;
                due.is("total", 1005, () -> x.total(1, stand, 0));
                due.is("error", stand == 0 ? 502 : 0, () -> x.total(1, stand, 1));
                due.is("missing", 1, () -> x.total(1, stand, 2));
                due.is("plots", stand == 0 ? 4 : 1, () -> x.total(1, stand, 3));
            }
        }
    }

    /** "Plots belong to STANDS 0 .. 2 (all to 0 at first)": each plot alone, moved to each stand. */
    private static void allPlotsAreOfStand0AtFirst() {
        for (int p = 0; p < 6; p++) {
            int plot = p;
            ForestTablets x = new ForestTablets();
            World.volume(x, plot, 7);
            inStands(x, 7, 0, 0);
            for (int stand : new int[] {1, 2, 0}) {
                x.stand(plot, stand);
                inStands(x, stand == 0 ? 7 : 0, stand == 1 ? 7 : 0, stand == 2 ? 7 : 0);
                due.is("plots", stand == 0 ? 6 : 5, () -> x.total(1, 0, 3));
            }
            x.stand(plot, 0);
            due.is("the same stand again", 6, () -> x.total(1, 0, 3));
        }
    }

    private static void aStandWithoutPlots() {
        ForestTablets x = new ForestTablets();
        for (int plot = 0; plot < 6; plot++) {
            World.volume(x, plot, 1 + plot);
            x.stand(plot, 2);
        }
        for (int stand = 0; stand < 2; stand++) {
            for (int w = 0; w < 4; w++) {
                int empty = stand;
                int what = w;
                due.is("total(1, " + empty + ", " + what + ")", 0, () -> x.total(1, empty, what));
            }
        }
        due.is("all in stand 2", 21, () -> x.total(1, 2, 0));
        due.is("six plots", 6, () -> x.total(1, 2, 3));
    }

    /** "0 if n is below 2": n of 0 and 1; and the first n that has an error, 2. */
    private static void theErrorOfFewerThanTwoPlots() {
        due.is("n of 0", 0, () -> new ForestTablets().total(1, 1, 1));
        due.is("n of 1, empty", 0, () -> errorOf(0));
        due.is("n of 1", 0, () -> errorOf(60));
        due.is("n of 2", 42, () -> errorOf(60, 0));
        due.is("n of 2, empty", 0, () -> errorOf(0, 0));
        due.is("n of 6, empty", 0, () -> new ForestTablets().total(0, 0, 1));
    }

    /** One plot of 60, the others empty: the root of 3600 / n. */
    private static void theErrorOfTwoToSixPlots() {
        due.is("3600 / 2", 42, () -> errorOf(60, 0));
        due.is("3600 / 3", 34, () -> errorOf(60, 0, 0));
        due.is("3600 / 4", 30, () -> errorOf(0, 60, 0, 0));
        due.is("3600 / 5", 26, () -> errorOf(0, 0, 0, 60, 0));
        due.is("3600 / 6", 24, () -> errorOf(0, 0, 0, 0, 0, 60));
        due.is("all alike", 0, () -> errorOf(60, 60, 60, 60, 60, 60));
    }

    /** "the greatest whole number whose square is not above": exactly its square. */
    private static void theErrorOfAWholeRoot() {
        due.is("root of 4", 2, () -> errorOf(0, 2, 4));
        due.is("root of 900", 30, () -> errorOf(0, 30, 60));
        due.is("root of 4", 2, () -> errorOf(0, 0, 0, 4));
        due.is("root of 4", 2, () -> errorOf(0, 0, 2, 4, 4));
        due.is("root of 4", 2, () -> errorOf(0, 0, 0, 0, 1, 5));
        due.is("root of 1", 1, () -> errorOf(0, 0, 0, 2));
    }

    /** One less than a square. */
    private static void theErrorBelowAWholeRoot() {
        due.is("root of 24.5", 4, () -> errorOf(0, 7));
        due.is("root of 8.3", 2, () -> errorOf(0, 0, 5));
        due.is("root of 8.9", 2, () -> errorOf(0, 2, 2, 7));
        due.is("root of 15.5", 3, () -> errorOf(0, 0, 0, 1, 9));
        due.is("root of 8.97", 2, () -> errorOf(0, 0, 0, 0, 4, 7));
        due.is("root of 0.5", 0, () -> errorOf(0, 1));
    }

    /** "(the rest dropped)": what is left is a square. */
    private static void theRestOfTheErrorIsDropped() {
        due.is("root of 4.5", 2, () -> errorOf(0, 3));
        due.is("root of 144.5", 12, () -> errorOf(17, 0));
        due.is("root of 16.3", 4, () -> errorOf(0, 0, 7));
        due.is("root of 4.25", 2, () -> errorOf(0, 0, 3, 4));
        due.is("root of 9.8", 3, () -> errorOf(0, 0, 0, 0, 7));
        due.is("root of 4.2", 2, () -> errorOf(0, 0, 0, 0, 0, 5));
    }

    /** All 24 trees at their greatest, 13 of tablet 1 and 11 of tablet 2, known to 2. */
    private static void theGreatestTotalAndErrors() {
        ForestTablets x = new ForestTablets();
        x.species(0, 100, 0, 1000);
        for (int spot = 0; spot < 72; spot++) {
            x.enter(spot < 39 ? 1 : 2, spot / 12, spot / 3 % 4, spot % 3, new int[] {0, 2000, 600}[spot % 3]);
        }
        due.is("at 1: three whole plots and one tree", 3 * 9600000 + 2400000, () -> x.total(1, 0, 0));
        due.meeting(x, 1, 2, 72);
        due.is("a plot's greatest", 9600000, () -> x.plot(2, 5, 0));
        due.is("a plot's greatest squares", 16000000, () -> x.plot(2, 5, 1));
        due.is("the greatest total", 57600000, () -> x.total(2, 0, 0));
        due.is("all alike", 0, () -> x.total(2, 0, 1));
        due.is("none missing", 0, () -> x.total(2, 0, 2));
        ForestTablets y = new ForestTablets();
        y.species(0, 100, 0, 1000);
        for (int spot = 0; spot < 36; spot++) {
            y.enter(1, spot / 12, spot / 3 % 4, spot % 3, new int[] {0, 2000, 600}[spot % 3]);
        }
        due.is("three full and three empty: root of 27648000000000", 5258136, () -> y.total(1, 0, 1));
        for (int plot = 1; plot < 5; plot++) {
            y.stand(plot, 1);
        }
        due.is("one full and one empty: root of 46080000000000", 6788225, () -> y.total(1, 0, 1));
        due.is("two full and two empty: root of 30720000000000", 5542562, () -> y.total(1, 1, 1));
    }

    private static long volumeOf(int diameter, int height, int factor) {
        ForestTablets x = new ForestTablets();
        x.species(2, factor, 0, 1000);
        World.tree(x, 0, 0, 2, diameter, height);
        return x.plot(1, 0, 0);
    }

    private static long implausible(int diameter, int height, int low, int high) {
        ForestTablets x = new ForestTablets();
        x.species(2, 50, low, high);
        World.tree(x, 0, 0, 2, diameter, height);
        return x.plot(1, 0, 3);
    }

    /** The error of stand 1, that has the first plots, with these volumes. */
    private static long errorOf(int... volumes) {
        ForestTablets x = new ForestTablets();
        for (int plot = 0; plot < volumes.length; plot++) {
            x.stand(plot, 1);
            if (volumes[plot] > 0) {
                World.volume(x, plot, volumes[plot]);
            }
        }
        return x.total(1, 1, 1);
    }

    private static void inStands(ForestTablets x, int... want) {
        for (int s = 0; s < 3; s++) {
            int stand = s;
            due.is("total of stand " + stand, want[stand], () -> x.total(1, stand, 0));
        }
    }
}
