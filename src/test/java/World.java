/** Brings an object into the states that tests begin with. */
final class World {
    private World() {
    }

    static void fill(ForestTablets x, int device, int upTo) {
        for (int i = x.known(device, device); i < upTo; i++) {
            x.enter(device, 5, 3, 2, 100);
        }
    }

    /** A meeting of two devices, that swap all and part. */
    static void meeting(ForestTablets x, int a, int b) {
        x.meet(a, b);
        int swaps = 0;
        while (swaps < 200 && x.swap()) {
            swaps++;
        }
        x.part();
    }

    static void tree(ForestTablets x, int plot, int tree, int kind, int diameter, int height) {
        x.enter(1, plot, tree, 0, kind);
        x.enter(1, plot, tree, 1, diameter);
        x.enter(1, plot, tree, 2, height);
    }

    /** One tree of species 3 at tablet 1, whose factor is 1, gives the plot this volume (1 .. 60). */
    static void volume(ForestTablets x, int plot, int volume) {
        x.species(3, 1, 0, 1000);
        tree(x, plot, 0, 3, 100, 10 * volume);
    }

    /** Tablets 1 .. 4 hold the plots 1 .. 4 and know it; nobody holds 0 and 5. */
    static ForestTablets eachHoldsItsPlot() {
        ForestTablets x = new ForestTablets();
        for (int tablet = 1; tablet <= 4; tablet++) {
            x.lend(tablet, tablet);
        }
        for (int tablet = 1; tablet <= 4; tablet++) {
            meeting(x, 0, tablet);
        }
        return x;
    }

    /** Tablet 1 holds all plots and knows it. */
    static ForestTablets oneHoldsAll() {
        ForestTablets x = new ForestTablets();
        for (int plot = 0; plot < 6; plot++) {
            x.lend(plot, 1);
        }
        meeting(x, 0, 1);
        return x;
    }

    /** Tablets 1 and 2 have entered different values in these fields, and the office knows both. */
    static ForestTablets inConflict(int... places) {
        ForestTablets x = new ForestTablets();
        for (int place : places) {
            int field = place % 10;
            x.enter(1, place / 100, place / 10 % 10, field, field == 0 ? 1 : 11);
            x.enter(2, place / 100, place / 10 % 10, field, field == 0 ? 2 : 22);
        }
        meeting(x, 1, 0);
        meeting(x, 2, 0);
        return x;
    }
}
