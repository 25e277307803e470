/** Promises 17 and 18: plot, total. */
public final class VolumesTest {
    private static final Due due = new Due();

    public static void main(String[] args) {
        volumesDropTheRestByTree();
        missingTrees();
        implausibleTrees();
        greatestVolumes();
        whatADeviceShowsCounts();
        standsAddTheirPlots();
        errors();
        wrongInputs();
        due.end();
    }

    private static void volumesDropTheRestByTree() {
        ForestTablets x = new ForestTablets();
        tree(x, 0, 0, 0, 100, 19);
        tree(x, 0, 1, 0, 100, 39);
        due.is("95 and 195", 95 + 195, () -> x.plot(1, 0, 0));
        tree(x, 0, 2, 1, 10, 10);
        due.is("0.5 is 0", 95 + 195, () -> x.plot(1, 0, 0));
        tree(x, 0, 3, 1, 10, 39);
        due.is("1.95 is 1", 95 + 195 + 1, () -> x.plot(1, 0, 0));
        due.is("squares", 10000 + 10000 + 100 + 100, () -> x.plot(1, 0, 1));
        due.is("other plot", 0, () -> x.plot(1, 1, 0));
        due.is("other device", 0, () -> x.plot(2, 0, 0));
    }

    private static void missingTrees() {
        ForestTablets x = new ForestTablets();
        due.is("no field", 0, () -> x.plot(1, 2, 2));
        x.enter(1, 2, 1, 0, 0);
        due.is("one field, of value 0", 1, () -> x.plot(1, 2, 2));
        x.enter(1, 2, 1, 1, 500);
        due.is("two fields", 1, () -> x.plot(1, 2, 2));
        due.is("no squares without all fields", 0, () -> x.plot(1, 2, 1));
        x.enter(1, 2, 1, 2, 500);
        due.is("all fields", 0, () -> x.plot(1, 2, 2));
        due.is("squares with all fields", 250000, () -> x.plot(1, 2, 1));
        x.enter(1, 2, 0, 2, 500);
        x.enter(1, 2, 2, 1, 500);
        x.enter(1, 2, 3, 0, 3);
        due.is("three trees", 3, () -> x.plot(1, 2, 2));
        x.enter(1, 5, 3, 0, 3);
        due.is("in the stand", 4, () -> x.total(1, 0, 2));
        x.stand(5, 1);
        due.is("in the stand", 3, () -> x.total(1, 0, 2));
        due.is("in the other", 1, () -> x.total(1, 1, 2));
        due.is("at another device", 0, () -> x.total(2, 0, 2));
    }

    private static void implausibleTrees() {
        ForestTablets x = new ForestTablets();
        tree(x, 0, 0, 2, 101, 20);
        tree(x, 0, 1, 2, 100, 20);
        tree(x, 0, 2, 2, 100, 200);
        tree(x, 0, 3, 2, 100, 201);
        due.is("below LOW, above HIGH", 0b1001, () -> x.plot(1, 0, 3));
        due.is("they have volumes", 102 + 100 + 1000 + 1005, () -> x.plot(1, 0, 0));
        x.enter(1, 1, 0, 1, 2000);
        x.enter(1, 1, 0, 2, 10);
        due.is("not without a species", 0, () -> x.plot(1, 1, 3));
        x.enter(1, 1, 0, 0, 1);
        due.is("with a species", 1, () -> x.plot(1, 1, 3));
        x.species(1, 50, 0, 0);
        due.is("above HIGH 0", 1, () -> x.plot(1, 1, 3));
        x.species(1, 50, 0, 1);
        due.is("not above HIGH 1", 0, () -> x.plot(1, 1, 3));
        x.species(1, 50, 1000, 1000);
        due.is("below LOW 1000", 1, () -> x.plot(1, 1, 3));
    }

    private static void greatestVolumes() {
        ForestTablets x = new ForestTablets();
        for (int s = 0; s < 4; s++) {
            x.species(s, 100, 0, 1000);
        }
        for (int t = 0; t < 4; t++) {
            tree(x, 0, t, t, 2000, 600);
            tree(x, 1, t < 2 ? t : 3, t, 2000, 600);
        }
        due.is("the greatest volume", 9600000, () -> x.plot(1, 0, 0));
        due.is("the greatest squares", 16000000, () -> x.plot(1, 0, 1));
        x.stand(0, 1);
        x.stand(2, 1);
        due.is("9600000 and 0", 6788225, () -> x.total(1, 1, 1));
        due.is("their sum", 9600000, () -> x.total(1, 1, 0));
    }

    private static void whatADeviceShowsCounts() {
        ForestTablets x = new ForestTablets();
        tree(x, 0, 0, 0, 100, 100);
        x.enter(2, 0, 0, 1, 200);
        x.enter(2, 0, 1, 2, 200);
        due.is("missing at 2", 2, () -> x.plot(2, 0, 2));
        x.meet(1, 2);
        due.swaps(x, 5);
        due.is("the last candidate counts", 2000, () -> x.plot(1, 0, 0));
        due.is("the last candidate counts", 40000, () -> x.plot(1, 0, 1));
        due.is("missing at 1", 1, () -> x.plot(1, 0, 2));
        x.crash(1);
        due.is("its own alone", 500, () -> x.plot(1, 0, 0));
        due.is("2 has kept all", 2000, () -> x.total(2, 0, 0));
        due.is("none is missing at 1", 0, () -> x.total(1, 0, 2));
    }

    private static void standsAddTheirPlots() {
        ForestTablets x = new ForestTablets();
        tree(x, 0, 0, 0, 100, 100);
        tree(x, 3, 0, 0, 100, 200);
        tree(x, 5, 3, 0, 200, 100);
        due.is("all", 500 + 1000 + 2000, () -> x.total(1, 0, 0));
        x.stand(3, 2);
        due.is("two of them", 500 + 2000, () -> x.total(1, 0, 0));
        due.is("one of them", 1000, () -> x.total(1, 2, 0));
        due.is("no plots", 0, () -> x.total(1, 1, 0));
        due.is("five plots", 5, () -> x.total(1, 0, 3));
        due.is("one plot", 1, () -> x.total(1, 2, 3));
    }

    private static void errors() {
        ForestTablets x = new ForestTablets();
        due.is("nothing in six plots", 0, () -> x.total(1, 0, 1));
        due.is("no plots", 0, () -> x.total(1, 1, 1));
        tree(x, 0, 0, 0, 100, 100);
        due.is("500 in six: root of 41666", 204, () -> x.total(1, 0, 1));
        x.stand(0, 1);
        due.is("one plot", 0, () -> x.total(1, 1, 1));
        x.stand(1, 1);
        due.is("500 and 0: root of 125000", 353, () -> x.total(1, 1, 1));
        tree(x, 1, 0, 0, 100, 100);
        due.is("500 and 500", 0, () -> x.total(1, 1, 1));
        x.species(1, 1, 0, 1000);
        tree(x, 1, 1, 1, 100, 40);
        due.is("500 and 504: root of 8", 2, () -> x.total(1, 1, 1));
        tree(x, 2, 0, 1, 100, 10);
        x.stand(2, 2);
        x.stand(3, 2);
        due.is("1 and 0: root of 0.5, dropped", 0, () -> x.total(1, 2, 1));
        tree(x, 2, 0, 1, 100, 20);
        due.is("2 and 0: root of 2", 1, () -> x.total(1, 2, 1));
        x.stand(4, 2);
        due.is("2, 0 and 0: root of 1.3", 1, () -> x.total(1, 2, 1));
        tree(x, 2, 0, 1, 100, 30);
        due.is("3, 0 and 0: root of 3", 1, () -> x.total(1, 2, 1));
        tree(x, 2, 0, 1, 100, 40);
        due.is("4, 0 and 0: root of 5.3", 2, () -> x.total(1, 2, 1));
        x.stand(4, 0);
        tree(x, 2, 0, 1, 200, 10);
        due.is("4 and 0: root of 8", 2, () -> x.total(1, 2, 1));
    }

    private static void wrongInputs() {
        ForestTablets x = new ForestTablets();
        due.illegal("plot(-1, 0, 0)", () -> x.plot(-1, 0, 0));
        due.illegal("plot(5, 0, 0)", () -> x.plot(5, 0, 0));
        due.illegal("plot(0, -1, 0)", () -> x.plot(0, -1, 0));
        due.illegal("plot(0, 6, 0)", () -> x.plot(0, 6, 0));
        due.illegal("plot(0, 0, -1)", () -> x.plot(0, 0, -1));
        due.illegal("plot(0, 0, 4)", () -> x.plot(0, 0, 4));
        due.illegal("total(-1, 0, 0)", () -> x.total(-1, 0, 0));
        due.illegal("total(5, 0, 0)", () -> x.total(5, 0, 0));
        due.illegal("total(0, -1, 0)", () -> x.total(0, -1, 0));
        due.illegal("total(0, 3, 0)", () -> x.total(0, 3, 0));
        due.illegal("total(0, 0, -1)", () -> x.total(0, 0, -1));
        due.illegal("total(0, 0, 4)", () -> x.total(0, 0, 4));
    }

    private static void tree(ForestTablets x, int plot, int tree, int kind, int diameter, int height) {
        x.enter(1, plot, tree, 0, kind);
        x.enter(1, plot, tree, 1, diameter);
        x.enter(1, plot, tree, 2, height);
    }
}
