/** Promises 1 to 3: a new object, species, stand. */
public final class SettingsTest {
    private static final Due due = new Due();

    public static void main(String[] args) {
        newObjectIsEmpty();
        newObjectHasFirstSettings();
        speciesSetsOneSpecies();
        speciesEdges();
        standMovesAPlot();
        standEdges();
        due.end();
    }

    private static void newObjectIsEmpty() {
        ForestTablets x = new ForestTablets();
        for (int d = 0; d < 5; d++) {
            int device = d;
            for (int o = 0; o < 5; o++) {
                int other = o;
                due.is("known", 0, () -> x.known(device, other));
            }
            due.is("conflict", -1, () -> x.conflict(device, 0));
            for (int p = 0; p < 6; p++) {
                int plot = p;
                due.is("holder", -1, () -> x.holder(device, plot, 0));
                due.is("lend's number", 0, () -> x.holder(device, plot, 1));
                due.is("volume", 0, () -> x.plot(device, plot, 0));
                due.is("missing", 0, () -> x.plot(device, plot, 2));
                due.noElement("value", () -> x.value(device, plot, 3, 2));
                due.is("candidate", -1, () -> x.candidate(device, plot, 3, 2, 0));
            }
            due.is("all plots in stand 0", 6, () -> x.total(device, 0, 3));
            due.is("no plots in stand 1", 0, () -> x.total(device, 1, 3));
            due.is("no plots in stand 2", 0, () -> x.total(device, 2, 3));
        }
        due.badState("swap() without a meeting", x::swap);
        due.badState("part() without a meeting", x::part);
    }

    private static void newObjectHasFirstSettings() {
        for (int s = 0; s < 4; s++) {
            ForestTablets x = new ForestTablets();
            int kind = s;
            tree(x, s, 0, s, 1000, 200);
            tree(x, s, 1, s, 1000, 199);
            tree(x, s, 2, s, 300, 600);
            tree(x, s, 3, s, 299, 599);
            due.is("volumes by factor 50", 100000 + 99500 + 27000 + 26775, () -> x.plot(1, kind, 0));
            due.is("below LOW 20 and above HIGH 200", 0b1010, () -> x.plot(1, kind, 3));
        }
    }

    private static void speciesSetsOneSpecies() {
        ForestTablets x = new ForestTablets();
        tree(x, 0, 0, 2, 1000, 200);
        tree(x, 0, 1, 1, 1000, 200);
        x.species(2, 100, 21, 500);
        due.is("volume by both factors", 200000 + 100000, () -> x.plot(1, 0, 0));
        due.is("only one of them implausible", 0b01, () -> x.plot(1, 0, 3));
        x.species(2, 1, 0, 19);
        due.is("above the new HIGH", 0b01, () -> x.plot(1, 0, 3));
        x.species(2, 1, 0, 20);
        due.is("at the new HIGH", 0, () -> x.plot(1, 0, 3));
        x.meet(1, 3);
        due.swaps(x, 6);
        due.is("known at once to all", 2000 + 100000, () -> x.plot(3, 0, 0));
    }

    private static void speciesEdges() {
        ForestTablets x = new ForestTablets();
        tree(x, 0, 0, 0, 1000, 100);
        due.illegal("species -1", () -> x.species(-1, 1, 0, 0));
        due.illegal("species 4", () -> x.species(4, 1, 0, 0));
        due.illegal("factor 0", () -> x.species(0, 0, 0, 0));
        due.illegal("factor 101", () -> x.species(0, 101, 0, 0));
        due.illegal("low -1", () -> x.species(0, 1, -1, 0));
        due.illegal("low above high", () -> x.species(0, 1, 5, 4));
        due.illegal("high 1001", () -> x.species(0, 1, 0, 1001));
        due.is("a refused call sets nothing", 50000, () -> x.plot(1, 0, 0));
        due.is("a refused call sets no bound", 1, () -> x.plot(1, 0, 3));
        due.runs("factor 1", () -> x.species(0, 1, 0, 0));
        due.is("volume by factor 1", 1000, () -> x.plot(1, 0, 0));
        due.runs("factor 100", () -> x.species(0, 100, 1000, 1000));
        due.runs("bounds apart", () -> x.species(3, 100, 0, 1000));
        due.runs("bounds alike", () -> x.species(3, 100, 7, 7));
        due.is("volume by factor 100", 100000, () -> x.plot(1, 0, 0));
    }

    private static void standMovesAPlot() {
        ForestTablets x = new ForestTablets();
        tree(x, 5, 0, 0, 1000, 200);
        x.stand(5, 2);
        due.is("stand 0 has lost one", 5, () -> x.total(1, 0, 3));
        due.is("stand 2 has one", 1, () -> x.total(4, 2, 3));
        due.is("its volume went along", 100000, () -> x.total(1, 2, 0));
        due.is("its volume is gone", 0, () -> x.total(1, 0, 0));
        x.stand(5, 1);
        due.is("stand 2 has none", 0, () -> x.total(1, 2, 3));
        due.is("stand 1 has one", 1, () -> x.total(1, 1, 3));
        x.stand(5, 0);
        due.is("back again", 6, () -> x.total(1, 0, 3));
    }

    private static void standEdges() {
        ForestTablets x = new ForestTablets();
        due.illegal("plot -1", () -> x.stand(-1, 0));
        due.illegal("plot 6", () -> x.stand(6, 0));
        due.illegal("stand -1", () -> x.stand(0, -1));
        due.illegal("stand 3", () -> x.stand(0, 3));
        due.is("nothing moved", 6, () -> x.total(0, 0, 3));
    }

    private static void tree(ForestTablets x, int plot, int tree, int kind, int diameter, int height) {
        x.enter(1, plot, tree, 0, kind);
        x.enter(1, plot, tree, 1, diameter);
        x.enter(1, plot, tree, 2, height);
    }
}
