/**
 * What each promise says of the state: empty and full, the last call that goes and the first that is refused, and
 * that the refused one leaves nothing behind. A method for each sentence.
 */
public final class StatesTest {
    private static final Due due = new Due();

    public static void main(String[] args) {
        aNewObjectHasNoEntries();
        speciesAreKnownAtOnceToAll();
        aPlotBelongsToAStandFromNowOn();
        lendIfTheOfficeTakesSomebodyAsHolder();
        lendAtFortyEntries();
        giveBackIfNotTheHolder();
        giveBackAtFortyEntries();
        enterAtFortyEntries();
        resolveWithoutAConflict();
        resolveTakesTheConflictsOfTheOffice();
        resolveAtFortyEntries();
        meetWhileOneIsUnderWay();
        meetAfterAnEnd();
        swapWithoutAMeeting();
        theMeetingGoesOnAfterASwap();
        partWithoutAMeeting();
        knownOfItsOwnAndOfNothing();
        valueOfNothing();
        valueOfAFieldInConflict();
        candidatesThatAreNotSoMany();
        conflictsThatAreNotSoMany();
        due.end();
    }

    /** Promise 1: "No entries". */
    private static void aNewObjectHasNoEntries() {
        for (int d = 0; d < 5; d++) {
            int device = d;
            due.is("first entry", 1, () -> new ForestTablets().enter(device, 0, 0, 0, 0));
            for (int spot = 0; spot < 72; spot++) {
                ForestTablets x = new ForestTablets();
                int plot = spot / 12;
                int tree = spot / 3 % 4;
                int field = spot % 3;
                due.noElement("value", () -> x.value(device, plot, tree, field));
                due.is("candidate", -1, () -> x.candidate(device, plot, tree, field, 0));
            }
            for (int what = 0; what < 3; what++) {
                int side = what;
                due.is("total", 0, () -> new ForestTablets().total(device, 0, side));
            }
        }
        due.noElement("resolve", () -> new ForestTablets().resolve(0, 10));
        for (int p = 0; p < 6; p++) {
            int plot = p;
            due.is("first lend", 1, () -> new ForestTablets().lend(plot, 4));
            due.badState("giveBack", () -> new ForestTablets().giveBack(4, plot));
        }
    }

    /** Promise 2: "(all known at once to all)": no meeting is needed, and no crash takes it. */
    private static void speciesAreKnownAtOnceToAll() {
        ForestTablets x = new ForestTablets();
        for (int d = 0; d < 5; d++) {
            x.enter(d, 0, 0, 0, 1);
            x.enter(d, 0, 0, 1, 100);
            x.enter(d, 0, 0, 2, 100);
        }
        x.species(1, 100, 101, 1000);
        for (int d = 0; d < 5; d++) {
            int device = d;
            due.is("volume", 1000, () -> x.plot(device, 0, 0));
            due.is("implausible", 1, () -> x.plot(device, 0, 3));
            x.crash(device);
            due.is("volume", 1000, () -> x.plot(device, 0, 0));
        }
        due.is("no entry", 3, () -> x.known(0, 0));
    }

    /** Promise 3: "from now on": at all devices, for what was entered before and what comes after. */
    private static void aPlotBelongsToAStandFromNowOn() {
        ForestTablets x = new ForestTablets();
        World.volume(x, 0, 3);
        x.stand(0, 1);
        x.stand(2, 1);
        due.is("before", 3, () -> x.total(1, 1, 0));
        World.volume(x, 2, 4);
        due.is("after", 7, () -> x.total(1, 1, 0));
        due.is("none left", 0, () -> x.total(1, 0, 0));
        for (int d = 0; d < 5; d++) {
            int device = d;
            due.is("plots", 2, () -> x.total(device, 1, 3));
            due.is("plots", 4, () -> x.total(device, 0, 3));
        }
    }

    /** Promise 4: "if the office takes somebody as holder": by what the office knows, and of this plot alone. */
    private static void lendIfTheOfficeTakesSomebodyAsHolder() {
        for (int p = 0; p < 6; p++) {
            ForestTablets x = new ForestTablets();
            int plot = p;
            due.is("free", 1, () -> x.lend(plot, 1));
            for (int t = 1; t <= 4; t++) {
                int tablet = t;
                due.badState("lent", () -> x.lend(plot, tablet));
            }
            due.is("another plot is free", 1, () -> x.lend((plot + 1) % 6, 1));
            World.meeting(x, 0, 1);
            x.giveBack(1, plot);
            due.badState("given back, but the office does not know", () -> x.lend(plot, 1));
            x.meet(1, 0);
            due.badState("not yet", () -> x.lend(plot, 1));
            due.is("swap()", 1, () -> x.swap() ? 1 : 0);
            due.is("the office knows: the meeting need not end", 2, () -> x.lend(plot, 4));
            due.badState("lent again", () -> x.lend(plot, 4));
            due.is("entries", 3, () -> x.known(0, 0));
            due.is("number", 2, () -> x.holder(0, plot, 1));
        }
    }

    /** Promise 4: "or has 40 entries". */
    private static void lendAtFortyEntries() {
        ForestTablets x = new ForestTablets();
        World.fill(x, 0, 39);
        due.is("entry 40", 1, () -> x.lend(0, 1));
        due.badState("entry 41, of a free plot", () -> x.lend(1, 1));
        due.badState("entry 41, of a lent plot", () -> x.lend(0, 1));
        due.is("entries", 40, () -> x.known(0, 0));
        due.is("nobody holds", -1, () -> x.holder(0, 1, 0));
        due.is("no lend", 0, () -> x.holder(0, 1, 1));
    }

    /** Promise 5: "if it does not take itself as holder". */
    private static void giveBackIfNotTheHolder() {
        ForestTablets x = new ForestTablets();
        due.badState("no lend", () -> x.giveBack(1, 0));
        x.lend(0, 1);
        due.badState("a lend that it does not know", () -> x.giveBack(1, 0));
        x.meet(0, 1);
        due.is("swap()", 1, () -> x.swap() ? 1 : 0);
        x.crash(1);
        due.badState("a lend that it has lost", () -> x.giveBack(1, 0));
        World.meeting(x, 0, 1);
        World.meeting(x, 0, 2);
        due.badState("another's", () -> x.giveBack(2, 0));
        due.badState("another plot", () -> x.giveBack(1, 1));
        due.is("its own", 1, () -> x.giveBack(1, 0));
        due.badState("given back", () -> x.giveBack(1, 0));
        World.meeting(x, 1, 0);
        x.lend(0, 1);
        due.badState("lent again, that it does not know", () -> x.giveBack(1, 0));
        World.meeting(x, 0, 1);
        due.is("lent again", 2, () -> x.giveBack(1, 0));
        due.badState("given back again", () -> x.giveBack(1, 0));
        due.is("entries", 2, () -> x.known(1, 1));
        due.is("no entry of 2", 0, () -> x.known(2, 2));
    }

    /** Promise 5: "or has 40 entries". */
    private static void giveBackAtFortyEntries() {
        for (int t = 1; t <= 4; t++) {
            ForestTablets x = World.eachHoldsItsPlot();
            int tablet = t;
            World.fill(x, tablet, 39);
            ForestTablets y = World.eachHoldsItsPlot();
            World.fill(y, tablet, 40);
            due.is("entry 40", 40, () -> x.giveBack(tablet, tablet));
            due.is("nobody holds", -1, () -> x.holder(tablet, tablet, 0));
            due.badState("entry 41", () -> y.giveBack(tablet, tablet));
            due.is("still the holder", tablet, () -> y.holder(tablet, tablet, 0));
            due.is("entries", 40, () -> y.known(tablet, tablet));
        }
    }

    /** Promise 6: "if it has 40 entries": each device; the one refused is nowhere. */
    private static void enterAtFortyEntries() {
        for (int d = 0; d < 5; d++) {
            ForestTablets x = new ForestTablets();
            int device = d;
            World.fill(x, device, 39);
            due.is("entry 40", 40, () -> x.enter(device, 1, 2, 1, 77));
            due.badState("entry 41", () -> x.enter(device, 1, 2, 1, 78));
            due.badState("entry 41, in another field", () -> x.enter(device, 0, 0, 0, 0));
            due.is("shown", 77, () -> x.value(device, 1, 2, 1));
            due.is("candidate", 100 * device + 40, () -> x.candidate(device, 1, 2, 1, 0));
            due.noElement("nothing in the other field", () -> x.value(device, 0, 0, 0));
            due.is("entries", 40, () -> x.known(device, device));
            x.meet(device, (device + 1) % 5);
            due.swaps(x, 40);
        }
    }

    /** Promise 7: "NoSuchElementException if there is none". */
    private static void resolveWithoutAConflict() {
        ForestTablets x = new ForestTablets();
        due.noElement("no entries", () -> x.resolve(0, 10));
        x.enter(0, 0, 0, 1, 10);
        due.noElement("one value", () -> x.resolve(0, 10));
        x.enter(1, 0, 0, 1, 10);
        World.meeting(x, 1, 0);
        due.noElement("two alike", () -> x.resolve(0, 10));
        x.enter(2, 0, 0, 1, 20);
        x.meet(2, 0);
        due.noElement("the office does not know", () -> x.resolve(0, 10));
        due.is("swap()", 1, () -> x.swap() ? 1 : 0);
        due.is("the office knows", 1, () -> x.conflict(0, 0));
        due.noElement("no second", () -> x.resolve(1, 10));
        x.crash(0);
        due.noElement("the office has lost it", () -> x.resolve(0, 10));
        World.meeting(x, 2, 0);
        due.is("resolve", 2, () -> x.resolve(0, 10));
        due.noElement("resolved", () -> x.resolve(0, 10));
        due.is("entries", 2, () -> x.known(0, 0));
    }

    /** Promise 7: "its i-th field in conflict (as conflict(0, i) tells it)": the first, the middle, the last. */
    private static void resolveTakesTheConflictsOfTheOffice() {
        int[] places = {0, 1, 2, 10, 100, 532};
        for (int k = 0; k < places.length; k++) {
            ForestTablets x = World.inConflict(places);
            int i = k;
            int field = places[i] % 10;
            due.is("resolve", 1, () -> x.resolve(i, field == 0 ? 3 : 33));
            due.is("shown", field == 0 ? 3 : 33,
                () -> x.value(0, places[i] / 100, places[i] / 10 % 10, field));
            for (int j = 0; j < places.length; j++) {
                int left = j;
                int want = j < i ? places[j] : j + 1 < places.length ? places[j + 1] : -1;
                due.is("left", want, () -> x.conflict(0, left));
            }
        }
        ForestTablets y = new ForestTablets();
        y.enter(1, 0, 0, 1, 10);
        y.enter(2, 0, 0, 1, 20);
        World.meeting(y, 1, 2);
        due.is("a tablet's conflict", 1, () -> y.conflict(1, 0));
        due.noElement("is none of the office", () -> y.resolve(0, 10));
    }

    /** Promise 7: "if it has 40 entries". */
    private static void resolveAtFortyEntries() {
        ForestTablets x = World.inConflict(1, 312);
        World.fill(x, 0, 39);
        due.is("entry 40", 40, () -> x.resolve(0, 33));
        due.badState("entry 41", () -> x.resolve(0, 33));
        due.is("still in conflict", 312, () -> x.conflict(0, 0));
        due.is("still shown", 22, () -> x.value(0, 3, 1, 2));
        due.is("entries", 40, () -> x.known(0, 0));
        due.noElement("no second conflict", () -> x.resolve(1, 33));
    }

    /** Promise 8: "if one is under way": whoever would meet, and the one under way stays as it is. */
    private static void meetWhileOneIsUnderWay() {
        ForestTablets x = new ForestTablets();
        for (int d = 0; d < 5; d++) {
            x.enter(d, 0, 0, 0, 0);
        }
        x.meet(1, 3);
        for (int a = 0; a < 5; a++) {
            for (int b = 0; b < 5; b++) {
                int first = a;
                int second = b;
                if (first != second) {
                    due.badState("meet(" + first + ", " + second + ")", () -> x.meet(first, second));
                }
            }
        }
        due.is("swap()", 1, () -> x.swap() ? 1 : 0);
        due.is("still 1 gives 3", 1, () -> x.known(3, 1));
        due.is("swap()", 1, () -> x.swap() ? 1 : 0);
        due.is("still 3 gives 1", 1, () -> x.known(1, 3));
        due.is("swap()", 0, () -> x.swap() ? 1 : 0);
        due.badState("with nothing left, too", () -> x.meet(0, 2));
    }

    private static void meetAfterAnEnd() {
        ForestTablets x = new ForestTablets();
        due.runs("meet", () -> x.meet(0, 1));
        x.part();
        due.runs("after part", () -> x.meet(0, 1));
        x.crash(0);
        due.runs("after a crash of the first", () -> x.meet(0, 1));
        x.crash(1);
        due.runs("after a crash of the second", () -> x.meet(1, 0));
        x.crash(2);
        due.badState("not after a crash of another", () -> x.meet(3, 4));
        due.illegal("nor with itself", () -> x.meet(1, 1));
        due.runs("part", x::part);
    }

    /** Promise 9: "if there is no meeting". */
    private static void swapWithoutAMeeting() {
        ForestTablets x = new ForestTablets();
        x.enter(1, 0, 0, 0, 0);
        due.badState("none yet", x::swap);
        x.meet(1, 2);
        x.part();
        due.badState("after part", x::swap);
        x.meet(1, 2);
        x.crash(1);
        due.badState("after a crash of the first", x::swap);
        x.meet(1, 2);
        x.crash(2);
        due.badState("after a crash of the second", x::swap);
        due.illegal("meet", () -> x.meet(1, 1));
        due.badState("after a refused meet", x::swap);
        due.is("nothing was carried", 0, () -> x.known(2, 1));
    }

    /** Promise 9: "(The meeting goes on in any case.)": after true, and after false. */
    private static void theMeetingGoesOnAfterASwap() {
        ForestTablets x = new ForestTablets();
        x.enter(1, 0, 0, 0, 0);
        x.meet(1, 2);
        due.is("swap()", 1, () -> x.swap() ? 1 : 0);
        due.badState("goes on", () -> x.meet(3, 4));
        due.is("swap()", 0, () -> x.swap() ? 1 : 0);
        due.badState("goes on", () -> x.meet(3, 4));
        due.is("swap()", 0, () -> x.swap() ? 1 : 0);
        x.crash(2);
        due.is("false has kept nothing", 0, () -> x.known(2, 1));
        due.runs("ended", () -> x.meet(3, 4));
    }

    /** Promise 10: "IllegalStateException if there is none". */
    private static void partWithoutAMeeting() {
        ForestTablets x = new ForestTablets();
        due.badState("none yet", x::part);
        x.meet(1, 2);
        due.runs("part()", x::part);
        due.badState("after part", x::part);
        x.meet(1, 2);
        x.crash(1);
        due.badState("after a crash of the first", x::part);
        x.meet(1, 2);
        x.crash(2);
        due.badState("after a crash of the second", x::part);
        due.illegal("meet", () -> x.meet(0, 5));
        due.badState("after a refused meet", x::part);
    }

    /** Promise 12: "(or its own)": 0, 1, 40. */
    private static void knownOfItsOwnAndOfNothing() {
        ForestTablets x = new ForestTablets();
        for (int d = 0; d < 5; d++) {
            int device = d;
            due.is("nothing", 0, () -> x.known(device, device));
            x.enter(device, 0, 0, 0, 0);
            due.is("one", 1, () -> x.known(device, device));
            World.fill(x, device, 40);
            due.is("forty", 40, () -> x.known(device, device));
            due.is("of another", 0, () -> x.known(device, (device + 1) % 5));
        }
    }

    /** Promise 14: "NoSuchElementException if there is none": all around the one field that has a value. */
    private static void valueOfNothing() {
        ForestTablets x = new ForestTablets();
        x.enter(2, 3, 2, 1, 10);
        due.is("the one", 10, () -> x.value(2, 3, 2, 1));
        for (int spot = 0; spot < 72; spot++) {
            int plot = spot / 12;
            int tree = spot / 3 % 4;
            int field = spot % 3;
            if (plot != 3 || tree != 2 || field != 1) {
                due.noElement("value of " + spot, () -> x.value(2, plot, tree, field));
            }
        }
        x.meet(2, 4);
        due.noElement("not known", () -> x.value(4, 3, 2, 1));
        x.swap();
        due.is("known", 10, () -> x.value(4, 3, 2, 1));
        x.crash(4);
        due.noElement("lost", () -> x.value(4, 3, 2, 1));
    }

    /** Promise 14: "(Also of a field in conflict.)". */
    private static void valueOfAFieldInConflict() {
        ForestTablets x = World.inConflict(0, 1, 532);
        due.is("species", 2, () -> x.value(0, 0, 0, 0));
        due.is("diameter", 22, () -> x.value(0, 0, 0, 1));
        due.is("height", 22, () -> x.value(0, 5, 3, 2));
        due.is("still in conflict", 0, () -> x.conflict(0, 0));
    }

    /** Promise 15: "-1 if there are not so many": of candidates, and of strays behind them. */
    private static void candidatesThatAreNotSoMany() {
        ForestTablets x = new ForestTablets();
        x.lend(0, 2);
        World.meeting(x, 0, 2);
        x.enter(2, 0, 0, 1, 20);
        x.enter(1, 0, 0, 1, 10);
        World.meeting(x, 1, 2);
        due.is("the candidate", 201, () -> x.candidate(1, 0, 0, 1, 0));
        due.is("1000 more for a stray", 1101, () -> x.candidate(1, 0, 0, 1, 1));
        for (int i : new int[] {2, 3, 100, Integer.MAX_VALUE - 1, Integer.MAX_VALUE}) {
            due.is("candidate " + i, -1, () -> x.candidate(1, 0, 0, 1, i));
            due.is("candidate " + i + " of nothing", -1, () -> x.candidate(1, 0, 0, 0, i));
        }
        due.is("candidate 0 of nothing", -1, () -> x.candidate(1, 0, 0, 0, 0));
        ForestTablets y = new ForestTablets();
        y.enter(0, 0, 0, 1, 10);
        due.is("the office's first entry", 1, () -> y.candidate(0, 0, 0, 1, 0));
        World.fill(y, 0, 40);
        due.is("the office's last entry", 40, () -> y.candidate(0, 5, 3, 2, 0));
    }

    /** Promise 16: "-1 if there are not so many". */
    private static void conflictsThatAreNotSoMany() {
        ForestTablets x = World.inConflict(0, 532);
        due.is("the least place", 0, () -> x.conflict(0, 0));
        due.is("the greatest place", 532, () -> x.conflict(0, 1));
        for (int i : new int[] {2, 3, 71, 72, Integer.MAX_VALUE - 1, Integer.MAX_VALUE}) {
            due.is("conflict " + i, -1, () -> x.conflict(0, i));
            due.is("conflict " + i + " of nothing", -1, () -> x.conflict(3, i));
        }
        due.is("conflict 0 of nothing", -1, () -> x.conflict(3, 0));
    }
}
