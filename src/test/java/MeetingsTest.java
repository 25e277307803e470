/** Promises 8 to 12: meet, swap, part, crash, known. */
public final class MeetingsTest {
    private static final Due due = new Due();

    public static void main(String[] args) {
        meetWrongInputs();
        swapGoesByAuthorThenNumber();
        swapGivesTheSecondDeviceFirst();
        swapHandsOnWhatOthersWrote();
        partKeeps();
        crashForgetsWhatWasGiven();
        crashOfTheFirstDevice();
        crashOfAThirdDevice();
        crashOutsideAMeeting();
        everyEntryKeeps();
        aRefusedEntryKeepsNothing();
        wrongInputs();
        due.end();
    }

    private static void meetWrongInputs() {
        ForestTablets x = new ForestTablets();
        due.illegal("device -1", () -> x.meet(-1, 0));
        due.illegal("device 5", () -> x.meet(5, 0));
        due.illegal("device -1", () -> x.meet(0, -1));
        due.illegal("device 5", () -> x.meet(0, 5));
        due.illegal("the same", () -> x.meet(2, 2));
        due.badState("none has begun", x::swap);
        due.runs("meet(0, 4)", () -> x.meet(0, 4));
        due.badState("under way", () -> x.meet(1, 2));
        due.badState("under way", () -> x.meet(0, 4));
        due.illegal("wrong input before state", () -> x.meet(2, 2));
        due.runs("part()", x::part);
        due.badState("ended", x::part);
        due.badState("ended", x::swap);
        due.runs("meet(4, 0)", () -> x.meet(4, 0));
    }

    private static void swapGoesByAuthorThenNumber() {
        ForestTablets x = new ForestTablets();
        x.enter(3, 0, 0, 0, 0);
        x.enter(3, 0, 0, 0, 1);
        x.enter(1, 0, 0, 0, 2);
        due.meeting(x, 3, 1, 3);
        x.meet(1, 4);
        carried(x, 1);
        row(x, 4, 0, 1, 0, 0, 0);
        carried(x, 1);
        row(x, 4, 0, 1, 0, 1, 0);
        due.is("the first one of 3", 0, () -> x.value(4, 0, 0, 0) == 0 ? 0 : 1);
        carried(x, 1);
        row(x, 4, 0, 1, 0, 2, 0);
        carried(x, 0);
        carried(x, 0);
        row(x, 4, 0, 1, 0, 2, 0);
        due.badState("the meeting goes on", () -> x.meet(0, 2));
    }

    private static void swapGivesTheSecondDeviceFirst() {
        ForestTablets x = new ForestTablets();
        x.enter(1, 0, 0, 0, 0);
        x.enter(4, 0, 0, 0, 1);
        x.meet(4, 1);
        carried(x, 1);
        row(x, 1, 0, 1, 0, 0, 1);
        row(x, 4, 0, 0, 0, 0, 1);
        carried(x, 1);
        row(x, 4, 0, 1, 0, 0, 1);
        carried(x, 0);
        due.is("an entry in the meeting", 2, () -> x.enter(4, 0, 0, 0, 2));
        due.is("and one of the other", 2, () -> x.enter(1, 0, 0, 0, 3));
        carried(x, 1);
        row(x, 1, 0, 2, 0, 0, 2);
        row(x, 4, 0, 1, 0, 0, 2);
        carried(x, 1);
        row(x, 4, 0, 2, 0, 0, 2);
        carried(x, 0);
    }

    private static void swapHandsOnWhatOthersWrote() {
        ForestTablets x = new ForestTablets();
        x.lend(0, 2);
        x.enter(0, 0, 0, 0, 0);
        due.meeting(x, 0, 3, 2);
        due.meeting(x, 4, 3, 2);
        due.meeting(x, 4, 2, 2);
        row(x, 2, 2, 0, 0, 0, 0);
        due.is("the lend came, too", 2, () -> x.holder(2, 0, 0));
    }

    private static void partKeeps() {
        ForestTablets x = new ForestTablets();
        x.enter(1, 0, 0, 0, 0);
        x.enter(2, 0, 0, 0, 1);
        due.meeting(x, 1, 2, 2);
        x.crash(1);
        x.crash(2);
        row(x, 1, 0, 1, 1, 0, 0);
        row(x, 2, 0, 1, 1, 0, 0);
    }

    private static void crashForgetsWhatWasGiven() {
        ForestTablets x = new ForestTablets();
        x.enter(1, 0, 0, 0, 0);
        x.enter(2, 0, 0, 0, 1);
        x.enter(2, 0, 0, 0, 1);
        due.meeting(x, 1, 3, 1);
        x.enter(1, 0, 0, 0, 2);
        x.meet(1, 2);
        carried(x, 1);
        carried(x, 1);
        carried(x, 1);
        row(x, 1, 0, 2, 1, 0, 0);
        row(x, 2, 0, 2, 2, 0, 0);
        due.runs("crash(2)", () -> x.crash(2));
        row(x, 2, 0, 0, 2, 0, 0);
        row(x, 1, 0, 2, 1, 0, 0);
        due.is("it shows its own again", 202, () -> x.candidate(2, 0, 0, 0, 0));
        due.is("and no other", -1, () -> x.candidate(2, 0, 0, 0, 1));
        due.badState("the meeting has ended", x::swap);
        due.badState("the meeting has ended", x::part);
        x.crash(1);
        row(x, 1, 0, 2, 1, 0, 0);
        due.meeting(x, 1, 2, 3);
        row(x, 2, 0, 2, 2, 0, 0);
    }

    private static void crashOfTheFirstDevice() {
        ForestTablets x = new ForestTablets();
        x.enter(1, 0, 0, 0, 0);
        x.enter(2, 0, 0, 0, 1);
        x.meet(1, 2);
        due.swaps(x, 2);
        x.crash(1);
        row(x, 1, 0, 1, 0, 0, 0);
        row(x, 2, 0, 1, 1, 0, 0);
        due.badState("the meeting has ended", x::swap);
        x.meet(2, 0);
        x.crash(2);
        row(x, 2, 0, 1, 1, 0, 0);
    }

    private static void crashOfAThirdDevice() {
        ForestTablets x = new ForestTablets();
        x.enter(1, 0, 0, 0, 0);
        due.meeting(x, 1, 3, 1);
        x.meet(1, 2);
        carried(x, 1);
        due.runs("crash(3)", () -> x.crash(3));
        row(x, 3, 0, 1, 0, 0, 0);
        row(x, 2, 0, 1, 0, 0, 0);
        due.badState("the meeting goes on", () -> x.meet(0, 3));
        carried(x, 0);
        x.crash(2);
        row(x, 2, 0, 0, 0, 0, 0);
    }

    private static void crashOutsideAMeeting() {
        ForestTablets x = new ForestTablets();
        due.runs("crash(0)", () -> x.crash(0));
        x.enter(0, 0, 0, 0, 0);
        x.crash(0);
        row(x, 0, 1, 0, 0, 0, 0);
        due.is("its own value", 0, () -> x.value(0, 0, 0, 0));
        due.is("the next number", 2, () -> x.enter(0, 0, 0, 0, 1));
    }

    private static void everyEntryKeeps() {
        ForestTablets x = new ForestTablets();
        x.lend(0, 1);
        x.enter(2, 1, 0, 0, 0);
        x.enter(2, 1, 0, 0, 0);
        x.meet(2, 1);
        carried(x, 1);
        due.is("enter", 1, () -> x.enter(1, 2, 0, 0, 1));
        carried(x, 1);
        x.crash(1);
        row(x, 1, 0, 1, 1, 0, 0);
        x.meet(0, 1);
        carried(x, 1);
        due.is("giveBack", 2, () -> x.giveBack(1, 0));
        x.crash(1);
        row(x, 1, 1, 2, 1, 0, 0);
        x.enter(1, 1, 0, 0, 3);
        x.enter(3, 1, 0, 0, 2);
        x.meet(1, 0);
        due.swaps(x, 4);
        due.is("lend", 1, () -> x.lend(5, 4));
        x.crash(0);
        row(x, 0, 2, 3, 1, 0, 0);
        x.meet(3, 0);
        carried(x, 1);
        due.is("resolve", 3, () -> x.resolve(0, 0));
        x.crash(0);
        row(x, 0, 3, 3, 1, 1, 0);
    }

    private static void aRefusedEntryKeepsNothing() {
        ForestTablets x = new ForestTablets();
        x.enter(2, 1, 0, 0, 0);
        for (int i = 0; i < 40; i++) {
            x.enter(1, 0, 0, 0, 0);
        }
        x.meet(2, 1);
        carried(x, 1);
        due.badState("forty-first entry", () -> x.enter(1, 0, 0, 0, 0));
        due.badState("not the holder", () -> x.giveBack(1, 0));
        x.crash(1);
        row(x, 1, 0, 40, 0, 0, 0);
    }

    private static void wrongInputs() {
        ForestTablets x = new ForestTablets();
        due.illegal("crash(-1)", () -> x.crash(-1));
        due.illegal("crash(5)", () -> x.crash(5));
        due.illegal("known(-1, 0)", () -> x.known(-1, 0));
        due.illegal("known(5, 0)", () -> x.known(5, 0));
        due.illegal("known(0, -1)", () -> x.known(0, -1));
        due.illegal("known(0, 5)", () -> x.known(0, 5));
        x.meet(0, 1);
        due.illegal("crash(-1)", () -> x.crash(-1));
        due.badState("the meeting goes on", () -> x.meet(2, 3));
    }

    private static void carried(ForestTablets x, int want) {
        due.is("swap()", want, () -> x.swap() ? 1 : 0);
    }

    private static void row(ForestTablets x, int device, int... want) {
        for (int i = 0; i < want.length; i++) {
            int other = i;
            due.is("known(" + device + ", " + other + ")", want[i], () -> x.known(device, other));
        }
    }
}
