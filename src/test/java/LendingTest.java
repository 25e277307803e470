/** Promises 4, 5 and 13: lend, giveBack, holder. */
public final class LendingTest {
    private static final Due due = new Due();

    public static void main(String[] args) {
        lendsAreNumberedByPlot();
        lendWrongInputs();
        lendNeedsTheOfficeToKnowTheBack();
        lendEndsAtFortyEntries();
        giveBackWrongInputs();
        giveBackNeedsTheHolder();
        giveBackEndsAtFortyEntries();
        devicesDisagreeOnTheHolder();
        anOldBackDoesNotEndANewLend();
        backWithoutItsLend();
        holderWrongInputs();
        due.end();
    }

    private static void lendsAreNumberedByPlot() {
        ForestTablets x = new ForestTablets();
        due.is("first lend of plot 0", 1, () -> x.lend(0, 1));
        due.is("first lend of plot 5", 1, () -> x.lend(5, 4));
        due.is("entries of the office", 2, () -> x.known(0, 0));
        due.is("holder of plot 0", 1, () -> x.holder(0, 0, 0));
        due.is("holder of plot 5", 4, () -> x.holder(0, 5, 0));
        due.is("holder of plot 1", -1, () -> x.holder(0, 1, 0));
        due.is("number of plot 5", 1, () -> x.holder(0, 5, 1));
        due.meeting(x, 0, 1, 2);
        due.is("giving back", 1, () -> x.giveBack(1, 0));
        due.meeting(x, 0, 1, 1);
        due.is("second lend of plot 0", 2, () -> x.lend(0, 3));
        due.is("its holder", 3, () -> x.holder(0, 0, 0));
        due.is("its number", 2, () -> x.holder(0, 0, 1));
        due.is("the number at tablet 1", 1, () -> x.holder(1, 0, 1));
    }

    private static void lendWrongInputs() {
        ForestTablets x = new ForestTablets();
        due.illegal("plot -1", () -> x.lend(-1, 1));
        due.illegal("plot 6", () -> x.lend(6, 1));
        due.illegal("the office is no tablet", () -> x.lend(0, 0));
        due.illegal("tablet -1", () -> x.lend(0, -1));
        due.illegal("tablet 5", () -> x.lend(0, 5));
        due.is("nothing entered", 0, () -> x.known(0, 0));
        due.is("lend", 1, () -> x.lend(0, 1));
        due.badState("lent already", () -> x.lend(0, 2));
        due.badState("lent already to the same", () -> x.lend(0, 1));
        due.illegal("wrong input before state", () -> x.lend(0, 5));
        due.is("one entered", 1, () -> x.known(0, 0));
    }

    private static void lendNeedsTheOfficeToKnowTheBack() {
        ForestTablets x = new ForestTablets();
        x.lend(2, 4);
        due.meeting(x, 0, 4, 1);
        x.giveBack(4, 2);
        due.badState("the office does not know of the back", () -> x.lend(2, 1));
        x.meet(4, 0);
        due.is("swap()", 1, () -> x.swap() ? 1 : 0);
        x.crash(0);
        due.badState("the office has lost the back", () -> x.lend(2, 1));
        due.meeting(x, 4, 0, 1);
        due.is("lend", 2, () -> x.lend(2, 1));
    }

    private static void lendEndsAtFortyEntries() {
        ForestTablets x = new ForestTablets();
        fill(x, 0, 39);
        due.is("fortieth entry", 1, () -> x.lend(1, 1));
        due.badState("forty-first entry", () -> x.lend(2, 1));
        due.illegal("wrong input before state", () -> x.lend(6, 1));
        due.is("forty", 40, () -> x.known(0, 0));
    }

    private static void giveBackWrongInputs() {
        ForestTablets x = new ForestTablets();
        x.lend(0, 1);
        due.meeting(x, 0, 1, 1);
        due.illegal("the office is no tablet", () -> x.giveBack(0, 0));
        due.illegal("tablet -1", () -> x.giveBack(-1, 0));
        due.illegal("tablet 5", () -> x.giveBack(5, 0));
        due.illegal("plot -1", () -> x.giveBack(1, -1));
        due.illegal("plot 6", () -> x.giveBack(1, 6));
        due.is("nothing entered", 0, () -> x.known(1, 1));
    }

    private static void giveBackNeedsTheHolder() {
        ForestTablets x = new ForestTablets();
        x.lend(0, 1);
        due.badState("the tablet does not know of it", () -> x.giveBack(1, 0));
        due.meeting(x, 0, 2, 1);
        due.is("tablet 2 knows of it", 1, () -> x.holder(2, 0, 0));
        due.badState("another tablet's", () -> x.giveBack(2, 0));
        due.meeting(x, 2, 1, 1);
        due.badState("another plot", () -> x.giveBack(1, 1));
        x.enter(1, 0, 0, 0, 0);
        due.is("the number is its entry's", 2, () -> x.giveBack(1, 0));
        due.is("nobody holds it", -1, () -> x.holder(1, 0, 0));
        due.is("the number stays", 1, () -> x.holder(1, 0, 1));
        due.badState("given back already", () -> x.giveBack(1, 0));
    }

    private static void giveBackEndsAtFortyEntries() {
        ForestTablets x = new ForestTablets();
        x.lend(0, 1);
        x.lend(1, 1);
        due.meeting(x, 0, 1, 2);
        fill(x, 1, 39);
        due.is("fortieth entry", 40, () -> x.giveBack(1, 1));
        due.badState("forty-first entry", () -> x.giveBack(1, 0));
        due.is("still the holder", 1, () -> x.holder(1, 0, 0));
    }

    private static void devicesDisagreeOnTheHolder() {
        ForestTablets x = new ForestTablets();
        x.lend(3, 1);
        due.meeting(x, 0, 1, 1);
        due.meeting(x, 0, 2, 1);
        x.giveBack(1, 3);
        due.is("the office", 1, () -> x.holder(0, 3, 0));
        due.is("tablet 1", -1, () -> x.holder(1, 3, 0));
        due.is("tablet 2", 1, () -> x.holder(2, 3, 0));
        due.is("tablet 3 knows of no lend", -1, () -> x.holder(3, 3, 0));
        due.is("tablet 3 knows of no number", 0, () -> x.holder(3, 3, 1));
        x.crash(1);
        due.is("its own back outlives a crash", -1, () -> x.holder(1, 3, 0));
    }

    private static void anOldBackDoesNotEndANewLend() {
        ForestTablets x = new ForestTablets();
        x.lend(0, 1);
        due.meeting(x, 0, 1, 1);
        x.giveBack(1, 0);
        due.meeting(x, 0, 1, 1);
        x.lend(0, 1);
        due.is("at the office", 1, () -> x.holder(0, 0, 0));
        due.is("not yet at the tablet", -1, () -> x.holder(1, 0, 0));
        due.badState("not yet", () -> x.giveBack(1, 0));
        due.meeting(x, 1, 0, 1);
        due.is("at the tablet", 1, () -> x.holder(1, 0, 0));
        due.is("number 2", 2, () -> x.holder(1, 0, 1));
        due.is("given back again", 2, () -> x.giveBack(1, 0));
        due.is("nobody", -1, () -> x.holder(1, 0, 0));
    }

    /** The office's entries are carried first, so a back is known without its lend only after a break. */
    private static void backWithoutItsLend() {
        ForestTablets x = new ForestTablets();
        x.lend(0, 1);
        x.lend(1, 2);
        due.meeting(x, 0, 1, 2);
        x.giveBack(1, 0);
        x.meet(1, 3);
        due.is("the first lend", 1, () -> x.swap() ? 1 : 0);
        due.is("lent to 1, as far as 3 knows", 1, () -> x.holder(3, 0, 0));
        due.is("the second lend", 1, () -> x.swap() ? 1 : 0);
        due.is("the back is not yet carried", 1, () -> x.holder(3, 0, 0));
        due.is("the back", 1, () -> x.swap() ? 1 : 0);
        due.is("nobody", -1, () -> x.holder(3, 0, 0));
        due.is("the back of plot 0 is none of plot 1", 2, () -> x.holder(3, 1, 0));
    }

    private static void holderWrongInputs() {
        ForestTablets x = new ForestTablets();
        due.illegal("device -1", () -> x.holder(-1, 0, 0));
        due.illegal("device 5", () -> x.holder(5, 0, 0));
        due.illegal("plot -1", () -> x.holder(0, -1, 0));
        due.illegal("plot 6", () -> x.holder(0, 6, 0));
        due.illegal("what -1", () -> x.holder(0, 0, -1));
        due.illegal("what 2", () -> x.holder(0, 0, 2));
    }

    private static void fill(ForestTablets x, int device, int upTo) {
        for (int i = x.known(device, device); i < upTo; i++) {
            x.enter(device, 5, 3, 2, 100 + i);
        }
    }
}
