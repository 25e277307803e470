/**
 * The sentences of 'What it is' and of the Terms on devices, plots, entries, lends and values that name a boundary:
 * a method for each.
 */
public final class TermsTest {
    private static final Due due = new Due();

    public static void main(String[] args) {
        anObjectIsUsedFor512Calls();
        seventyTwoFieldsLieApart();
        aTabletHasFortyEntriesOfAllKinds();
        theOfficeHasFortyEntriesOfAllKinds();
        eachDeviceHasFortyEntriesOfItsOwn();
        aVectorEndsAtTheLastEntryKnown();
        aVectorHoldsMoreThanTheFieldsEntries();
        aVectorHoldsAllOfItsOwnBefore();
        aDeviceKnowsTheFirstSoManyEntries();
        aDeviceKnowsAllOfItsOwn();
        lendsOfAPlotAreNumbered1To40();
        eachPlotNumbersItsOwnLends();
        nobodyHoldsWithoutALend();
        nobodyHoldsBehindTheBackOfThisNumber();
        theBackOfAnOlderNumberEndsNothing();
        theGreatestNumberKnownTellsTheHolder();
        aValueOfWhoDoesNotHoldHasRank0();
        aValueOfTheHolderHasTheLendsNumberAsRank();
        aLendIsForItsPlotAlone();
        aResolvingValueRanksOneAboveRank0();
        aResolvingValueRanksOneAboveTheGreatest();
        aResolvingValueRanksAboveTheOfficesOwn();
        noValueNoCandidate();
        theOthersAreStrays();
        oneCandidateIsNoConflict();
        equalCandidatesAreNoConflict();
        anyTwoDifferentCandidatesAreAConflict();
        straysAreNoConflict();
        due.end();
    }

    /** "An object is used for at most 512 calls": the 512th is answered still, on the fullest object there is. */
    private static void anObjectIsUsedFor512Calls() {
        ForestTablets x = new ForestTablets();
        int calls = 0;
        for (int d = 0; d < 5; d++) {
            for (int i = 1; i <= 40; i++) {
                int device = d;
                int number = i;
                due.is("enter", number, () -> x.enter(device, 5, 3, 1, 100 * device + 9 + number));
                calls++;
            }
        }
        for (int d = 1; d < 5; d++) {
            x.meet(d, 0);
            for (int i = 0; i < 40; i++) {
                carries(x, 1);
            }
            x.part();
            calls += 42;
        }
        for (int i = 0; i < 5; i++) {
            int place = i;
            due.is("known", 40, () -> x.known(0, place));
            due.is("candidate", 100 * place + 40, () -> x.candidate(0, 5, 3, 1, place));
            calls += 2;
        }
        due.is("no sixth candidate", -1, () -> x.candidate(0, 5, 3, 1, 5));
        due.badState("no room to resolve", () -> x.resolve(0, 10));
        calls += 2;
        while (calls < 511) {
            x.crash(calls % 5);
            calls++;
        }
        due.is("call 512", 449, () -> x.value(0, 5, 3, 1));
    }

    /** "PLOTS are 0 .. 5, each with TREES 0 .. 3, each with FIELDS": 72 places, in this order. */
    private static void seventyTwoFieldsLieApart() {
        ForestTablets x = new ForestTablets();
        for (int spot = 0; spot < 72; spot++) {
            int field = spot % 3;
            x.enter(spot < 36 ? 1 : 2, spot / 12, spot / 3 % 4, field, field == 0 ? 3 : 20 + spot);
            x.enter(spot < 36 ? 3 : 4, spot / 12, spot / 3 % 4, field, field == 0 ? spot % 2 : 120 + spot);
        }
        for (int tablet = 1; tablet <= 4; tablet++) {
            x.meet(tablet, 0);
            for (int i = 0; i < 36; i++) {
                carries(x, 1);
            }
            x.part();
        }
        for (int s = 0; s < 72; s++) {
            int spot = s;
            int plot = spot / 12;
            int tree = spot / 3 % 4;
            int field = spot % 3;
            due.is("value", field == 0 ? spot % 2 : 120 + spot, () -> x.value(0, plot, tree, field));
            due.is("conflict", 100 * plot + 10 * tree + field, () -> x.conflict(0, spot));
        }
        due.is("no conflict 72", -1, () -> x.conflict(0, 72));
    }

    /** "numbered by it 1, 2, .. (at most 40 of each)": enter and giveBack share the numbers. */
    private static void aTabletHasFortyEntriesOfAllKinds() {
        ForestTablets x = World.oneHoldsAll();
        for (int i = 1; i <= 40; i++) {
            int number = i;
            if (number % 8 == 0) {
                due.is("giveBack", number, () -> x.giveBack(1, number / 8 - 1));
            } else {
                due.is("enter", number, () -> x.enter(1, 0, 0, 0, 0));
            }
        }
        due.badState("a back as entry 41", () -> x.giveBack(1, 5));
        due.badState("a value as entry 41", () -> x.enter(1, 0, 0, 0, 1));
        due.is("forty", 40, () -> x.known(1, 1));
        due.is("still the holder", 1, () -> x.holder(1, 5, 0));
        due.is("the value stays", 0, () -> x.value(1, 0, 0, 0));
    }

    /** "numbered by it 1, 2, .. (at most 40 of each)": lend, enter and resolve share the numbers. */
    private static void theOfficeHasFortyEntriesOfAllKinds() {
        ForestTablets x = World.inConflict(1, 532);
        due.is("a lend", 1, () -> x.lend(0, 1));
        due.is("is entry 1", 1, () -> x.known(0, 0));
        due.is("a value is entry 2", 2, () -> x.enter(0, 2, 0, 0, 0));
        due.is("a resolving one is entry 3", 3, () -> x.resolve(0, 11));
        due.is("a lend", 1, () -> x.lend(1, 1));
        for (int i = 5; i <= 40; i++) {
            int number = i;
            due.is("enter", number, () -> x.enter(0, 2, 0, 0, 1));
        }
        due.badState("a lend as entry 41", () -> x.lend(2, 1));
        due.badState("a value as entry 41", () -> x.enter(0, 2, 0, 0, 2));
        due.badState("a resolving one as entry 41", () -> x.resolve(0, 11));
        due.is("forty", 40, () -> x.known(0, 0));
        due.is("still in conflict", 532, () -> x.conflict(0, 0));
    }

    /** "at most 40 of each": what others entered, and what is known of them, counts for nobody else. */
    private static void eachDeviceHasFortyEntriesOfItsOwn() {
        ForestTablets x = new ForestTablets();
        for (int d = 0; d < 5; d++) {
            int device = d;
            World.fill(x, device, 39);
            due.is("entry 40 of " + device, 40, () -> x.enter(device, 0, 0, 0, 1));
            due.badState("entry 41 of " + device, () -> x.enter(device, 0, 0, 0, 2));
        }
        due.meeting(x, 3, 4, 80);
        ForestTablets y = new ForestTablets();
        World.fill(y, 1, 40);
        due.meeting(y, 1, 2, 40);
        due.is("entry 1 of who knows 40", 1, () -> y.enter(2, 0, 0, 0, 1));
    }

    /** "how many entries of each device its author knew then": the last one known, and the first one not known. */
    private static void aVectorEndsAtTheLastEntryKnown() {
        ForestTablets x = new ForestTablets();
        x.enter(1, 0, 0, 1, 11);
        x.meet(1, 2);
        carries(x, 1);
        x.enter(1, 0, 0, 1, 12);
        x.enter(2, 0, 0, 1, 21);
        carries(x, 1);
        due.is("12 was not known", 102, () -> x.candidate(2, 0, 0, 1, 0));
        due.is("11 was known", 201, () -> x.candidate(2, 0, 0, 1, 1));
        due.is("no more", -1, () -> x.candidate(2, 0, 0, 1, 2));
        x.enter(2, 0, 0, 1, 22);
        due.is("12 was known", 202, () -> x.candidate(2, 0, 0, 1, 0));
        due.is("no more", -1, () -> x.candidate(2, 0, 0, 1, 1));
    }

    /** The same with more entries of the author known than the one in question, in other fields. */
    private static void aVectorHoldsMoreThanTheFieldsEntries() {
        ForestTablets x = new ForestTablets();
        x.enter(1, 0, 0, 0, 0);
        x.enter(1, 0, 0, 1, 11);
        x.enter(1, 0, 0, 2, 11);
        World.meeting(x, 1, 2);
        x.enter(2, 0, 0, 0, 1);
        x.enter(2, 0, 0, 1, 21);
        World.meeting(x, 2, 1);
        due.is("the first was known", 201, () -> x.candidate(1, 0, 0, 0, 0));
        due.is("no more", -1, () -> x.candidate(1, 0, 0, 0, 1));
        lists(x, 1, 202, -1);
        lists(x, 2, 202, -1);
        due.is("no conflict", -1, () -> x.conflict(1, 0));
    }

    /** "(of its own: all before it)": from the first to the fortieth. */
    private static void aVectorHoldsAllOfItsOwnBefore() {
        ForestTablets x = new ForestTablets();
        for (int i = 1; i <= 40; i++) {
            int number = i;
            x.enter(2, 0, 0, 1, 50 + number);
            due.is("entry " + number, 200 + number, () -> x.candidate(2, 0, 0, 1, 0));
            due.is("alone", -1, () -> x.candidate(2, 0, 0, 1, 1));
        }
        x.meet(2, 3);
        for (int i = 1; i <= 40; i++) {
            int number = i;
            carries(x, 1);
            due.is("carried " + number, 200 + number, () -> x.candidate(3, 0, 0, 1, 0));
            due.is("alone", -1, () -> x.candidate(3, 0, 0, 1, 1));
            due.is("shown", 50 + number, () -> x.value(3, 0, 0, 1));
        }
    }

    /** "What a device KNOWS are the first so many entries of each device": 0, some, all. */
    private static void aDeviceKnowsTheFirstSoManyEntries() {
        ForestTablets x = new ForestTablets();
        x.enter(1, 0, 0, 0, 0);
        x.enter(1, 0, 0, 1, 10);
        x.enter(1, 0, 0, 2, 10);
        x.meet(1, 4);
        for (int n = 0; n <= 3; n++) {
            int count = n;
            due.is("known", count, () -> x.known(4, 1));
            for (int f = 0; f < 3; f++) {
                int field = f;
                due.is("candidate of field " + field, field < count ? 101 + field : -1,
                    () -> x.candidate(4, 0, 0, field, 0));
            }
            carries(x, count < 3 ? 1 : 0);
        }
        due.is("no more than there are", 3, () -> x.known(4, 1));
    }

    /** "all of its own": at once, and after a crash. */
    private static void aDeviceKnowsAllOfItsOwn() {
        for (int d = 0; d < 5; d++) {
            ForestTablets x = new ForestTablets();
            int device = d;
            due.is("none", 0, () -> x.known(device, device));
            x.meet(device, (device + 1) % 5);
            for (int i = 1; i <= 40; i++) {
                int count = i;
                x.enter(device, 0, 0, 1, 10 + count);
                due.is("own", count, () -> x.known(device, device));
            }
            x.crash(device);
            due.is("own after a crash", 40, () -> x.known(device, device));
            due.is("shown after a crash", 50, () -> x.value(device, 0, 0, 1));
        }
    }

    /** "the next number for this plot (1, 2, ..)": up to 40, all of one plot. */
    private static void lendsOfAPlotAreNumbered1To40() {
        ForestTablets x = new ForestTablets();
        x.meet(0, 3);
        for (int i = 1; i <= 40; i++) {
            int number = i;
            due.is("lend", number, () -> x.lend(5, 3));
            carries(x, 1);
            due.is("number", number, () -> x.holder(3, 5, 1));
            due.is("holder", 3, () -> x.holder(3, 5, 0));
            due.is("giveBack", number, () -> x.giveBack(3, 5));
            carries(x, 1);
            due.is("nobody", -1, () -> x.holder(0, 5, 0));
        }
        due.badState("lend 41, that nobody hinders but the 40 entries", () -> x.lend(5, 3));
        due.is("number 40", 40, () -> x.holder(0, 5, 1));
        due.is("nobody", -1, () -> x.holder(0, 5, 0));
    }

    private static void eachPlotNumbersItsOwnLends() {
        ForestTablets x = World.oneHoldsAll();
        for (int p = 0; p < 6; p++) {
            int plot = p;
            due.is("number", 1, () -> x.holder(1, plot, 1));
        }
        x.giveBack(1, 2);
        due.meeting(x, 1, 0, 1);
        due.is("the second of plot 2", 2, () -> x.lend(2, 4));
        due.is("plot 1 as before", 1, () -> x.holder(0, 1, 1));
        due.is("plot 3 as before", 1, () -> x.holder(0, 3, 1));
    }

    /** "else nobody": no LEND is known. */
    private static void nobodyHoldsWithoutALend() {
        ForestTablets x = new ForestTablets();
        x.lend(0, 1);
        x.enter(0, 1, 0, 0, 0);
        for (int tablet = 1; tablet <= 4; tablet++) {
            int device = tablet;
            due.is("holder, unknown", -1, () -> x.holder(device, 0, 0));
            due.is("number, unknown", 0, () -> x.holder(device, 0, 1));
        }
        due.is("holder of another plot", -1, () -> x.holder(0, 1, 0));
        due.is("number of another plot", 0, () -> x.holder(0, 1, 1));
        x.meet(0, 1);
        carries(x, 1);
        due.is("known, not kept", 1, () -> x.holder(1, 0, 0));
        x.crash(1);
        due.is("holder, lost", -1, () -> x.holder(1, 0, 0));
        due.is("number, lost", 0, () -> x.holder(1, 0, 1));
    }

    /** "if it knows no BACK with this number; else nobody": by what each device knows of it. */
    private static void nobodyHoldsBehindTheBackOfThisNumber() {
        ForestTablets x = new ForestTablets();
        x.lend(0, 2);
        x.lend(1, 2);
        due.meeting(x, 0, 2, 2);
        x.enter(2, 0, 0, 0, 0);
        x.giveBack(2, 0);
        x.meet(2, 0);
        due.is("the office knows nothing of it", 2, () -> x.holder(0, 0, 0));
        carries(x, 1);
        due.is("the entry before the back", 2, () -> x.holder(0, 0, 0));
        carries(x, 1);
        due.is("the back", -1, () -> x.holder(0, 0, 0));
        due.is("the number stays", 1, () -> x.holder(0, 0, 1));
        due.is("the other plot's lend has the same number", 2, () -> x.holder(0, 1, 0));
        x.crash(0);
        due.is("the back is lost", 2, () -> x.holder(0, 0, 0));
        due.is("not for its author", -1, () -> x.holder(2, 0, 0));
        x.enter(2, 0, 0, 0, 0);
        due.is("nor by what its author enters behind it", -1, () -> x.holder(2, 0, 0));
        due.meeting(x, 2, 0, 3);
        due.is("nor for who knows more than the back", -1, () -> x.holder(0, 0, 0));
    }

    private static void theBackOfAnOlderNumberEndsNothing() {
        ForestTablets x = lentTwice();
        due.is("at the office", 2, () -> x.holder(0, 0, 0));
        due.meeting(x, 0, 4, 3);
        due.is("with both lends and the first back", 2, () -> x.holder(4, 0, 0));
        due.is("number", 2, () -> x.holder(4, 0, 1));
    }

    /** "the LEND with the greatest number that it knows": the second without the first one's BACK, the first alone. */
    private static void theGreatestNumberKnownTellsTheHolder() {
        ForestTablets x = lentTwice();
        x.meet(0, 3);
        carries(x, 1);
        due.is("the first alone", 1, () -> x.holder(3, 0, 0));
        due.is("number", 1, () -> x.holder(3, 0, 1));
        carries(x, 1);
        due.is("the second, before the back of the first", 2, () -> x.holder(3, 0, 0));
        due.is("number", 2, () -> x.holder(3, 0, 1));
        carries(x, 1);
        due.is("and with it", 2, () -> x.holder(3, 0, 0));
        due.is("tablet 1 knows of the first and its back", -1, () -> x.holder(1, 0, 0));
        due.is("number", 1, () -> x.holder(1, 0, 1));
    }

    /** "the number of the LEND if the author takes itself as holder, else 0": all ways of not holding. */
    private static void aValueOfWhoDoesNotHoldHasRank0() {
        ForestTablets unaware = new ForestTablets();
        unaware.lend(0, 1);
        ranksAlike("it does not know of the lend", unaware);

        ForestTablets forgetful = new ForestTablets();
        forgetful.lend(0, 1);
        forgetful.meet(0, 1);
        carries(forgetful, 1);
        forgetful.crash(1);
        ranksAlike("it has lost the lend", forgetful);

        ForestTablets another = new ForestTablets();
        another.lend(0, 3);
        World.meeting(another, 0, 1);
        ranksAlike("another one holds", another);

        ForestTablets given = new ForestTablets();
        given.lend(0, 1);
        World.meeting(given, 0, 1);
        given.giveBack(1, 0);
        ranksAlike("it has given back", given);

        ranksAlike("nobody holds", new ForestTablets());
    }

    private static void aValueOfTheHolderHasTheLendsNumberAsRank() {
        ForestTablets x = new ForestTablets();
        x.lend(0, 1);
        World.meeting(x, 0, 1);
        x.enter(1, 0, 0, 1, 10);
        x.enter(4, 0, 0, 1, 40);
        x.giveBack(1, 0);
        World.meeting(x, 1, 0);
        x.lend(0, 2);
        x.meet(0, 2);
        carries(x, 1);
        carries(x, 1);
        due.is("it knows the lend, and not 10", 1, () -> x.enter(2, 0, 0, 1, 20));
        x.part();
        World.meeting(x, 2, 4);
        World.meeting(x, 0, 4);
        lists(x, 4, 201, 1101, 1401, -1);
        due.is("rank 2 is shown", 20, () -> x.value(4, 0, 0, 1));
    }

    private static void aLendIsForItsPlotAlone() {
        ForestTablets x = new ForestTablets();
        x.lend(1, 1);
        World.meeting(x, 0, 1);
        ranksAlike("it holds another plot", x);
    }

    /** "one above the greatest rank of VALUES of this field that the office knows": 0 alone makes 1, like the holder's. */
    private static void aResolvingValueRanksOneAboveRank0() {
        ForestTablets x = holdersValueUnknownToTheOffice();
        due.is("resolve", 2, () -> x.resolve(0, 40));
        World.meeting(x, 3, 0);
        lists(x, 0, 2, 301, -1);
        due.is("in conflict again", 1, () -> x.conflict(0, 0));
    }

    /** The same: a rank of 1, that is known, makes 2. */
    private static void aResolvingValueRanksOneAboveTheGreatest() {
        ForestTablets x = holdersValueUnknownToTheOffice();
        x.enter(3, 1, 0, 1, 77);
        due.is("resolve", 2, () -> x.resolve(0, 40));
        World.meeting(x, 3, 0);
        due.is("resolve", 3, () -> x.resolve(0, 50));
        due.is("enter with rank 1 again", 3, () -> x.enter(3, 0, 0, 1, 60));
        due.is("no conflict at the holder", -1, () -> x.conflict(3, 0));
        x.enter(4, 0, 0, 1, 70);
        World.meeting(x, 3, 0);
        World.meeting(x, 4, 0);
        lists(x, 0, 3, 1303, 1401, -1);
        due.is("rank 2 is shown", 50, () -> x.value(0, 0, 0, 1));
    }

    /** The same: the greatest rank known is that of the office's own resolving one, that was replaced. */
    private static void aResolvingValueRanksAboveTheOfficesOwn() {
        ForestTablets x = holdersValueUnknownToTheOffice();
        due.is("resolve, with rank 1", 2, () -> x.resolve(0, 40));
        World.meeting(x, 0, 1);
        World.meeting(x, 0, 2);
        x.enter(1, 0, 0, 1, 12);
        x.enter(2, 0, 0, 1, 22);
        World.meeting(x, 1, 0);
        World.meeting(x, 2, 0);
        lists(x, 0, 102, 202, -1);
        due.is("resolve, with rank 2", 3, () -> x.resolve(0, 50));
        World.meeting(x, 3, 0);
        lists(x, 0, 3, 1301, -1);
        due.is("no conflict with the holder's", -1, () -> x.conflict(0, 0));
    }

    private static void noValueNoCandidate() {
        ForestTablets x = new ForestTablets();
        lists(x, 0, -1, -1);
        due.noElement("value", () -> x.value(0, 0, 0, 1));
        x.lend(0, 1);
        x.enter(0, 0, 0, 2, 10);
        lists(x, 0, -1, -1);
        due.noElement("value", () -> x.value(0, 0, 0, 1));
        x.enter(0, 0, 0, 1, 10);
        lists(x, 0, 3, -1);
        lists(x, 1, -1, -1);
    }

    /** "The others that no other one knew are STRAYS, listed behind them likewise": by author, not by rank. */
    private static void theOthersAreStrays() {
        ForestTablets x = new ForestTablets();
        x.lend(0, 3);
        World.meeting(x, 0, 3);
        x.enter(3, 0, 0, 1, 30);
        x.enter(4, 0, 0, 1, 40);
        x.enter(1, 0, 0, 1, 10);
        x.giveBack(3, 0);
        x.meet(3, 0);
        for (int i = 0; i < 2; i++) {
            carries(x, 1);
        }
        x.part();
        x.lend(0, 2);
        x.meet(0, 2);
        for (int i = 0; i < 2; i++) {
            carries(x, 1);
        }
        due.is("enter with rank 2", 1, () -> x.enter(2, 0, 0, 1, 20));
        x.part();
        for (int tablet = 1; tablet <= 4; tablet++) {
            World.meeting(x, tablet, 0);
        }
        lists(x, 0, 201, 1101, 1301, 1401, -1);
        due.is("a stray is not shown", 20, () -> x.value(0, 0, 0, 1));
    }

    private static void oneCandidateIsNoConflict() {
        ForestTablets x = new ForestTablets();
        due.is("none", -1, () -> x.conflict(0, 0));
        x.enter(0, 0, 0, 1, 10);
        due.is("one", -1, () -> x.conflict(0, 0));
        x.enter(0, 0, 0, 1, 20);
        due.is("one, that knew the other", -1, () -> x.conflict(0, 0));
    }

    private static void equalCandidatesAreNoConflict() {
        for (int value : new int[] {10, 2000}) {
            ForestTablets x = ofFour(value, value, value, value);
            lists(x, 0, 101, 201, 301, 401, -1);
            due.is("all alike", -1, () -> x.conflict(0, 0));
            due.is("shown", value, () -> x.value(0, 0, 0, 1));
        }
    }

    /** "if two candidates have different values": whichever of them. */
    private static void anyTwoDifferentCandidatesAreAConflict() {
        int[][] values = {{11, 10, 10, 10}, {10, 11, 10, 10}, {10, 10, 11, 10}, {10, 10, 10, 11}, {10, 11, 11, 10},
                          {10, 10, 11, 11}, {10, 11, 12, 13}, {10, 2000, 10, 10}};
        for (int[] v : values) {
            ForestTablets x = ofFour(v[0], v[1], v[2], v[3]);
            due.is("in conflict", 1, () -> x.conflict(0, 0));
            due.is("once", -1, () -> x.conflict(0, 1));
            due.is("the last one is shown", v[3], () -> x.value(0, 0, 0, 1));
        }
    }

    /** Two candidates of rank 1 with one value, and a stray with another. */
    private static void straysAreNoConflict() {
        ForestTablets x = holdersValueUnknownToTheOffice();
        x.enter(4, 0, 0, 1, 99);
        due.is("resolve to the holder's value", 2, () -> x.resolve(0, 30));
        World.meeting(x, 3, 0);
        World.meeting(x, 4, 0);
        lists(x, 0, 2, 301, 1401, -1);
        due.is("no conflict", -1, () -> x.conflict(0, 0));
        due.noElement("nothing to resolve", () -> x.resolve(0, 30));
    }

    /** Plot 0 was lent to 1, given back, and lent to 2, who does not know of it. */
    private static ForestTablets lentTwice() {
        ForestTablets x = new ForestTablets();
        x.lend(0, 1);
        World.meeting(x, 0, 1);
        x.giveBack(1, 0);
        World.meeting(x, 1, 0);
        x.lend(0, 2);
        return x;
    }

    /** Tablets 1 and 4 enter values that do not know of each other: both are candidates, so 1's has rank 0. */
    private static void ranksAlike(String why, ForestTablets x) {
        x.enter(1, 0, 0, 1, 10);
        x.enter(4, 0, 0, 1, 40);
        World.meeting(x, 1, 4);
        due.is(why + ": 1's", 100 + x.known(1, 1), () -> x.candidate(4, 0, 0, 1, 0));
        due.is(why + ": 4's", 401, () -> x.candidate(4, 0, 0, 1, 1));
        due.is(why + ": no more", -1, () -> x.candidate(4, 0, 0, 1, 2));
    }

    /** Plot 0 is lent to 3, who enters 30; the office knows 10 of 1 and 20 of 2, both of rank 0. */
    private static ForestTablets holdersValueUnknownToTheOffice() {
        ForestTablets x = new ForestTablets();
        x.lend(0, 3);
        World.meeting(x, 0, 3);
        x.enter(1, 0, 0, 1, 10);
        x.enter(2, 0, 0, 1, 20);
        x.enter(3, 0, 0, 1, 30);
        World.meeting(x, 1, 0);
        World.meeting(x, 2, 0);
        return x;
    }

    /** The office knows the values of tablets 1 .. 4, that did not know of each other. */
    private static ForestTablets ofFour(int... values) {
        ForestTablets x = new ForestTablets();
        for (int i = 0; i < 4; i++) {
            x.enter(i + 1, 0, 0, 1, values[i]);
        }
        for (int tablet = 1; tablet <= 4; tablet++) {
            World.meeting(x, tablet, 0);
        }
        return x;
    }

    private static void carries(ForestTablets x, int want) {
        due.is("swap()", want, () -> x.swap() ? 1 : 0);
    }

    /** What stands first, second .. among the candidates and strays of field 1 of tree 0 of plot 0. */
    private static void lists(ForestTablets x, int device, int... want) {
        for (int i = 0; i < want.length; i++) {
            int place = i;
            due.is("candidate " + place + " at " + device, want[i], () -> x.candidate(device, 0, 0, 1, place));
        }
    }
}
