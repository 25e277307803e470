/** The sentences of the Terms on meetings, swaps, keeping and crashes that name a boundary: a method for each. */
public final class MeetingTermsTest {
    private static final Due due = new Due();

    public static void main(String[] args) {
        aMeetingIsOfTwoDevices();
        aSwapCarriesOneEntry();
        aSwapGoesByAuthorThenNumber();
        aSwapGivesTheSecondDeviceAllBeforeTheFirst();
        aSwapWithoutEntriesCarriesNothing();
        aSwapOfWhoKnowAlikeCarriesNothing();
        aSwapCarriesUpToFortyOfEachAuthor();
        whatWasGivenIsKeptByAnEntry();
        whatWasGivenAfterTheEntryIsNotKept();
        anEntryKeepsNothingForTheOther();
        anEntryOutsideTheMeetingKeepsNothingInIt();
        aRefusedEntryKeepsNothing();
        whatWasGivenIsKeptByPart();
        partKeepsNothingThatWasNotGiven();
        theOtherOneKeepsAllAtACrash();
        aCrashTakesAllThatWasGivenInThisMeeting();
        aCrashTakesNothingOfMeetingsBefore();
        aCrashWithNothingGiven();
        aSecondCrashTakesNothing();
        aCrashOutsideAMeetingTakesNothing();
        aCrashOfAnotherDeviceEndsNoMeeting();
        whatACrashTookIsCarriedAgain();
        due.end();
    }

    /** "one at a time, of two devices": all pairs, both ways round. */
    private static void aMeetingIsOfTwoDevices() {
        for (int i = 0; i < 5; i++) {
            for (int j = 0; j < 5; j++) {
                int a = i;
                int b = j;
                if (a == b) {
                    continue;
                }
                ForestTablets x = oneEntryOfEach();
                due.runs("meet", () -> x.meet(a, b));
                due.swaps(x, 2);
                for (int d = 0; d < 5; d++) {
                    boolean isThere = d == a || d == b;
                    knows(x, d, of(d, isThere ? a : d, isThere ? b : d));
                }
            }
        }
    }

    private static void aSwapCarriesOneEntry() {
        ForestTablets x = new ForestTablets();
        x.enter(1, 0, 0, 0, 0);
        x.enter(1, 0, 0, 0, 1);
        x.enter(2, 0, 0, 0, 2);
        x.meet(1, 2);
        carries(x, 1);
        knows(x, 1, 0, 2, 0, 0, 0);
        knows(x, 2, 0, 1, 1, 0, 0);
        due.is("the first one", 101, () -> x.candidate(2, 0, 0, 0, 0));
    }

    /** "the first one (by author, then number)". */
    private static void aSwapGoesByAuthorThenNumber() {
        ForestTablets x = new ForestTablets();
        for (int author = 4; author >= 0; author--) {
            x.enter(author, 0, 0, 0, 0);
            x.enter(author, 0, 0, 0, 1);
        }
        for (int author = 4; author >= 0; author--) {
            if (author != 2) {
                World.meeting(x, author, 2);
            }
        }
        x.meet(2, 4);
        int[][] rows = {{0, 0, 2, 0, 2}, {1, 0, 2, 0, 2}, {2, 0, 2, 0, 2}, {2, 1, 2, 0, 2}, {2, 2, 2, 0, 2},
                        {2, 2, 2, 1, 2}, {2, 2, 2, 2, 2}};
        for (int i = 0; i < rows.length; i++) {
            knows(x, 4, rows[i]);
            carries(x, i < 6 ? 1 : 0);
        }
    }

    /** "if there is none, the first one that the first device lacks and the second one knows". */
    private static void aSwapGivesTheSecondDeviceAllBeforeTheFirst() {
        ForestTablets x = new ForestTablets();
        x.enter(0, 0, 0, 0, 0);
        x.enter(4, 0, 0, 0, 1);
        x.enter(4, 0, 0, 0, 2);
        x.meet(4, 0);
        carries(x, 1);
        carries(x, 1);
        knows(x, 4, 0, 0, 0, 0, 2);
        knows(x, 0, 1, 0, 0, 0, 2);
        carries(x, 1);
        knows(x, 4, 1, 0, 0, 0, 2);
        due.is("a new one of the first", 3, () -> x.enter(4, 0, 0, 0, 3));
        due.is("a new one of the second", 2, () -> x.enter(0, 0, 0, 0, 3));
        carries(x, 1);
        knows(x, 0, 2, 0, 0, 0, 3);
        knows(x, 4, 1, 0, 0, 0, 3);
    }

    private static void aSwapWithoutEntriesCarriesNothing() {
        ForestTablets x = new ForestTablets();
        x.enter(3, 0, 0, 0, 0);
        x.meet(1, 2);
        for (int i = 0; i < 3; i++) {
            carries(x, 0);
        }
        knows(x, 1, 0, 0, 0, 0, 0);
        knows(x, 2, 0, 0, 0, 0, 0);
        due.runs("the meeting goes on", x::part);
    }

    private static void aSwapOfWhoKnowAlikeCarriesNothing() {
        ForestTablets x = new ForestTablets();
        x.enter(1, 0, 0, 0, 0);
        x.enter(2, 0, 0, 0, 0);
        World.meeting(x, 1, 2);
        x.meet(2, 1);
        carries(x, 0);
        knows(x, 1, 0, 1, 1, 0, 0);
        due.is("a new entry", 2, () -> x.enter(1, 0, 0, 0, 0));
        carries(x, 1);
        carries(x, 0);
    }

    private static void aSwapCarriesUpToFortyOfEachAuthor() {
        ForestTablets x = new ForestTablets();
        World.fill(x, 0, 40);
        World.fill(x, 4, 40);
        x.meet(0, 4);
        for (int i = 0; i < 80; i++) {
            carries(x, 1);
        }
        carries(x, 0);
        knows(x, 0, 40, 0, 0, 0, 40);
        knows(x, 4, 40, 0, 0, 0, 40);
    }

    /** "is KEPT when it enters something": each kind of entry. */
    private static void whatWasGivenIsKeptByAnEntry() {
        ForestTablets entered = oneEntryOfEach();
        entered.meet(3, 2);
        carries(entered, 1);
        due.is("enter", 2, () -> entered.enter(2, 0, 0, 0, 0));
        entered.crash(2);
        knows(entered, 2, 0, 0, 2, 1, 0);

        ForestTablets given = oneEntryOfEach();
        given.lend(5, 2);
        given.meet(0, 2);
        carries(given, 1);
        carries(given, 1);
        due.is("giveBack", 2, () -> given.giveBack(2, 5));
        given.crash(2);
        knows(given, 2, 2, 0, 2, 0, 0);

        ForestTablets lent = oneEntryOfEach();
        lent.meet(3, 0);
        carries(lent, 1);
        due.is("lend", 1, () -> lent.lend(5, 2));
        lent.crash(0);
        knows(lent, 0, 2, 0, 0, 1, 0);

        ForestTablets resolved = oneEntryOfEach();
        resolved.meet(3, 0);
        carries(resolved, 1);
        due.is("resolve", 2, () -> resolved.resolve(0, 3));
        resolved.crash(0);
        knows(resolved, 0, 2, 0, 0, 1, 0);
    }

    private static void whatWasGivenAfterTheEntryIsNotKept() {
        ForestTablets x = new ForestTablets();
        for (int i = 0; i < 3; i++) {
            x.enter(1, 0, 0, 0, i);
        }
        x.meet(1, 2);
        carries(x, 1);
        x.enter(2, 0, 0, 0, 0);
        carries(x, 1);
        carries(x, 1);
        knows(x, 2, 0, 3, 1, 0, 0);
        x.crash(2);
        knows(x, 2, 0, 1, 1, 0, 0);
    }

    private static void anEntryKeepsNothingForTheOther() {
        ForestTablets x = oneEntryOfEach();
        x.meet(1, 2);
        due.swaps(x, 2);
        x.enter(1, 0, 0, 0, 0);
        x.crash(2);
        knows(x, 2, 0, 0, 1, 0, 0);
        ForestTablets y = oneEntryOfEach();
        y.meet(1, 2);
        due.swaps(y, 2);
        y.enter(2, 0, 0, 0, 0);
        y.crash(1);
        knows(y, 1, 0, 1, 0, 0, 0);
    }

    private static void anEntryOutsideTheMeetingKeepsNothingInIt() {
        ForestTablets x = oneEntryOfEach();
        x.meet(1, 2);
        due.swaps(x, 2);
        x.enter(3, 0, 0, 0, 0);
        x.lend(5, 1);
        x.crash(1);
        knows(x, 1, 0, 1, 0, 0, 0);
    }

    private static void aRefusedEntryKeepsNothing() {
        ForestTablets x = oneEntryOfEach();
        x.meet(2, 0);
        carries(x, 1);
        due.illegal("a wrong value", () -> x.enter(0, 0, 0, 0, 4));
        due.illegal("no such tablet", () -> x.lend(0, 0));
        due.illegal("a wrong resolving value", () -> x.resolve(0, 4));
        due.noElement("no such conflict", () -> x.resolve(1, 3));
        x.crash(0);
        knows(x, 0, 1, 0, 0, 0, 0);
        x.meet(1, 2);
        carries(x, 1);
        due.badState("not the holder", () -> x.giveBack(2, 0));
        x.crash(2);
        knows(x, 2, 0, 0, 1, 0, 0);
    }

    /** "or the meeting ends by part()": for both. */
    private static void whatWasGivenIsKeptByPart() {
        ForestTablets x = oneEntryOfEach();
        x.meet(1, 2);
        due.swaps(x, 2);
        x.part();
        x.crash(1);
        x.crash(2);
        knows(x, 1, 0, 1, 1, 0, 0);
        knows(x, 2, 0, 1, 1, 0, 0);
        x.meet(1, 0);
        x.crash(1);
        knows(x, 1, 0, 1, 1, 0, 0);
    }

    private static void partKeepsNothingThatWasNotGiven() {
        ForestTablets x = oneEntryOfEach();
        x.meet(1, 2);
        x.part();
        knows(x, 1, 0, 1, 0, 0, 0);
        knows(x, 2, 0, 0, 1, 0, 0);
        x.meet(1, 2);
        carries(x, 1);
        x.part();
        knows(x, 1, 0, 1, 0, 0, 0);
        knows(x, 2, 0, 1, 1, 0, 0);
    }

    /** "(the other one keeps all)": whichever of the two crashes. */
    private static void theOtherOneKeepsAllAtACrash() {
        for (int i = 0; i < 2; i++) {
            int crashing = 1 + i;
            int other = 2 - i;
            ForestTablets x = oneEntryOfEach();
            x.meet(1, 2);
            due.swaps(x, 2);
            due.runs("crash", () -> x.crash(crashing));
            knows(x, other, 0, 1, 1, 0, 0);
            x.crash(other);
            knows(x, other, 0, 1, 1, 0, 0);
            x.meet(other, 3);
            x.crash(other);
            knows(x, other, 0, 1, 1, 0, 0);
        }
    }

    /** "the device knows then what it has kept, and all of its own". */
    private static void aCrashTakesAllThatWasGivenInThisMeeting() {
        ForestTablets x = new ForestTablets();
        World.fill(x, 1, 40);
        World.meeting(x, 1, 3);
        World.fill(x, 3, 40);
        x.enter(2, 0, 0, 0, 0);
        x.meet(3, 2);
        due.swaps(x, 81);
        knows(x, 2, 0, 40, 1, 40, 0);
        x.crash(2);
        knows(x, 2, 0, 0, 1, 0, 0);
        due.is("its own is shown", 0, () -> x.value(2, 0, 0, 0));
        due.noElement("the others' are not", () -> x.value(2, 5, 3, 2));
    }

    private static void aCrashTakesNothingOfMeetingsBefore() {
        ForestTablets x = oneEntryOfEach();
        World.meeting(x, 4, 2);
        x.meet(3, 2);
        due.swaps(x, 3);
        knows(x, 2, 0, 0, 1, 1, 1);
        x.crash(2);
        knows(x, 2, 0, 0, 1, 0, 1);
        knows(x, 3, 0, 0, 1, 1, 1);
    }

    private static void aCrashWithNothingGiven() {
        ForestTablets x = new ForestTablets();
        x.meet(0, 4);
        x.crash(4);
        knows(x, 4, 0, 0, 0, 0, 0);
        due.badState("the meeting has ended", x::part);
    }

    private static void aSecondCrashTakesNothing() {
        ForestTablets x = oneEntryOfEach();
        World.meeting(x, 0, 1);
        x.meet(1, 2);
        due.swaps(x, 3);
        x.crash(1);
        x.crash(1);
        knows(x, 1, 1, 1, 0, 0, 0);
    }

    /** "(Outside a meeting that is all that it knows.)": also while others meet. */
    private static void aCrashOutsideAMeetingTakesNothing() {
        ForestTablets x = oneEntryOfEach();
        for (int d = 0; d < 5; d++) {
            x.crash(d);
            knows(x, d, of(d, d, d));
        }
        World.meeting(x, 1, 2);
        x.meet(3, 4);
        x.crash(1);
        x.crash(2);
        knows(x, 1, 0, 1, 1, 0, 0);
        knows(x, 2, 0, 1, 1, 0, 0);
    }

    private static void aCrashOfAnotherDeviceEndsNoMeeting() {
        ForestTablets x = oneEntryOfEach();
        x.meet(3, 4);
        carries(x, 1);
        for (int d = 0; d < 3; d++) {
            int device = d;
            due.runs("crash", () -> x.crash(device));
        }
        due.badState("under way", () -> x.meet(0, 1));
        carries(x, 1);
        knows(x, 3, 0, 0, 0, 1, 1);
        x.crash(4);
        knows(x, 4, 0, 0, 0, 0, 1);
        due.badState("ended", x::swap);
    }

    private static void whatACrashTookIsCarriedAgain() {
        ForestTablets x = oneEntryOfEach();
        x.meet(3, 4);
        carries(x, 1);
        x.crash(4);
        x.meet(3, 4);
        carries(x, 1);
        knows(x, 4, 0, 0, 0, 1, 1);
        x.part();
        x.crash(4);
        knows(x, 4, 0, 0, 0, 1, 1);
    }

    private static ForestTablets oneEntryOfEach() {
        ForestTablets x = new ForestTablets();
        for (int device = 0; device < 5; device++) {
            x.enter(device, 0, 0, 0, device % 4);
        }
        return x;
    }

    /** A row with 1 at these places. */
    private static int[] of(int... places) {
        int[] row = new int[5];
        for (int place : places) {
            row[place] = 1;
        }
        return row;
    }

    private static void carries(ForestTablets x, int want) {
        due.is("swap()", want, () -> x.swap() ? 1 : 0);
    }

    private static void knows(ForestTablets x, int device, int... want) {
        for (int i = 0; i < 5; i++) {
            int other = i;
            due.is("known(" + device + ", " + other + ")", want[i], () -> x.known(device, other));
        }
    }
}
