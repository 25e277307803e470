import java.util.ArrayList;
import java.util.List;

/**
 * A refused call throws what its promise names, and later calls show nothing of it: in each of several states, each
 * call that is refused is made on one of two like objects, and whatever comes after is answered alike by both.
 */
public final class RefusedTest {
    private static final Due due = new Due();
    private static final int MIN = Integer.MIN_VALUE;
    private static final int MAX = Integer.MAX_VALUE;

    private interface State {
        ForestTablets made();
    }

    private interface Call {
        long on(ForestTablets x);
    }

    private record Refused(String name, String thrown, Call call) {
    }

    private static final String ILLEGAL = "throws.IllegalArgumentException";
    private static final String BAD_STATE = "throws.IllegalStateException";
    private static final String NO_ELEMENT = "throws.NoSuchElementException";

    public static void main(String[] args) {
        look("a new object", ForestTablets::new, inANewObject());
        look("entries, lends and a conflict", RefusedTest::someEntries, withSomeEntries());
        look("a meeting of tablets", RefusedTest::inAMeetingOfTablets, inAMeeting());
        look("a meeting of the office", RefusedTest::inAMeetingOfTheOffice, inAMeeting());
        look("forty entries", RefusedTest::withFortyEntries, withoutAMeetingAtFortyEntries());
        look("forty entries in a meeting", RefusedTest::withFortyEntriesInAMeeting, atFortyEntries());
        due.end();
    }

    private static void look(String name, State state, List<Refused> byState) {
        List<Refused> all = new ArrayList<>(byState);
        all.addAll(byArguments());
        for (Call tail : tails()) {
            String plain = pictures(state, null, tail);
            for (Refused refused : all) {
                String after = pictures(state, refused, tail);
                due.is(name + ": " + refused.name + " leaves nothing behind", 1, () -> plain.equals(after) ? 1 : 0);
            }
        }
        for (Refused refused : all) {
            String got = outcome(state.made(), refused.call);
            due.is(name + ": " + refused.name + " answered " + got, 1, () -> refused.thrown.equals(got) ? 1 : 0);
        }
    }

    /** Calls that are refused in any state, by one wrong argument each. */
    private static List<Refused> byArguments() {
        List<Refused> all = new ArrayList<>();
        for (int bad : new int[] {MIN, -1, 4, MAX}) {
            illegal(all, "species s " + bad, x -> nothing(() -> x.species(bad, 99, 1, 1)));
        }
        for (int bad : new int[] {MIN, 0, 101, MAX}) {
            illegal(all, "species factor " + bad, x -> nothing(() -> x.species(1, bad, 1, 1)));
        }
        for (int[] bad : new int[][] {{-1, 0}, {MIN, 0}, {2, 1}, {0, 1001}, {0, MAX}, {1001, 1001}, {MAX, MIN}}) {
            illegal(all, "species low " + bad[0] + " high " + bad[1],
                x -> nothing(() -> x.species(1, 99, bad[0], bad[1])));
        }
        for (int bad : new int[] {MIN, -1, 6, MAX}) {
            illegal(all, "stand plot " + bad, x -> nothing(() -> x.stand(bad, 1)));
            illegal(all, "lend plot " + bad, x -> x.lend(bad, 1));
            illegal(all, "giveBack plot " + bad, x -> x.giveBack(1, bad));
            illegal(all, "enter plot " + bad, x -> x.enter(1, bad, 0, 0, 0));
            illegal(all, "holder plot " + bad, x -> x.holder(1, bad, 0));
            illegal(all, "value plot " + bad, x -> x.value(1, bad, 0, 0));
            illegal(all, "candidate plot " + bad, x -> x.candidate(1, bad, 0, 0, 0));
            illegal(all, "plot plot " + bad, x -> x.plot(1, bad, 0));
        }
        for (int bad : new int[] {MIN, -1, 3, MAX}) {
            illegal(all, "stand stand " + bad, x -> nothing(() -> x.stand(0, bad)));
            illegal(all, "enter field " + bad, x -> x.enter(1, 0, 0, bad, 10));
            illegal(all, "value field " + bad, x -> x.value(1, 0, 0, bad));
            illegal(all, "candidate field " + bad, x -> x.candidate(1, 0, 0, bad, 0));
            illegal(all, "total stand " + bad, x -> x.total(1, bad, 0));
        }
        for (int bad : new int[] {MIN, -1, 4, MAX}) {
            illegal(all, "enter tree " + bad, x -> x.enter(1, 0, bad, 0, 0));
            illegal(all, "enter species " + bad, x -> x.enter(1, 0, 0, 0, bad));
            illegal(all, "value tree " + bad, x -> x.value(1, 0, bad, 0));
            illegal(all, "candidate tree " + bad, x -> x.candidate(1, 0, bad, 0, 0));
            illegal(all, "plot what " + bad, x -> x.plot(1, 0, bad));
            illegal(all, "total what " + bad, x -> x.total(1, 0, bad));
        }
        for (int bad : new int[] {MIN, 9, 2001, MAX}) {
            illegal(all, "enter diameter " + bad, x -> x.enter(1, 0, 0, 1, bad));
        }
        for (int bad : new int[] {MIN, 9, 601, MAX}) {
            illegal(all, "enter height " + bad, x -> x.enter(1, 0, 0, 2, bad));
        }
        byDevice(all);
        for (int bad : new int[] {MIN, -1}) {
            illegal(all, "candidate i " + bad, x -> x.candidate(1, 0, 0, 0, bad));
            illegal(all, "conflict i " + bad, x -> x.conflict(0, bad));
        }
        for (int bad : new int[] {MIN, -1, 2, MAX}) {
            illegal(all, "holder what " + bad, x -> x.holder(1, 0, bad));
            all.add(new Refused("resolve i " + bad, NO_ELEMENT, x -> x.resolve(bad, 10)));
        }
        return all;
    }

    private static void byDevice(List<Refused> all) {
        for (int bad : new int[] {MIN, -1, 5, MAX}) {
            illegal(all, "enter device " + bad, x -> x.enter(bad, 0, 0, 0, 0));
            illegal(all, "meet first " + bad, x -> nothing(() -> x.meet(bad, 1)));
            illegal(all, "meet second " + bad, x -> nothing(() -> x.meet(1, bad)));
            illegal(all, "crash device " + bad, x -> nothing(() -> x.crash(bad)));
            illegal(all, "known device " + bad, x -> x.known(bad, 1));
            illegal(all, "known other " + bad, x -> x.known(1, bad));
            illegal(all, "holder device " + bad, x -> x.holder(bad, 0, 0));
            illegal(all, "value device " + bad, x -> x.value(bad, 0, 0, 0));
            illegal(all, "candidate device " + bad, x -> x.candidate(bad, 0, 0, 0, 0));
            illegal(all, "conflict device " + bad, x -> x.conflict(bad, 0));
            illegal(all, "plot device " + bad, x -> x.plot(bad, 0, 0));
            illegal(all, "total device " + bad, x -> x.total(bad, 0, 0));
        }
        for (int bad : new int[] {MIN, -1, 0, 5, MAX}) {
            illegal(all, "lend tablet " + bad, x -> x.lend(5, bad));
            illegal(all, "giveBack tablet " + bad, x -> x.giveBack(bad, 0));
        }
        for (int d = 0; d < 5; d++) {
            int same = d;
            illegal(all, "meet the same " + same, x -> nothing(() -> x.meet(same, same)));
        }
    }

    private static List<Refused> inANewObject() {
        List<Refused> all = withoutAMeeting();
        all.add(new Refused("resolve nothing", NO_ELEMENT, x -> x.resolve(0, 10)));
        all.add(new Refused("value of nothing", NO_ELEMENT, x -> x.value(1, 0, 0, 0)));
        all.add(new Refused("giveBack without a lend", BAD_STATE, x -> x.giveBack(1, 0)));
        return all;
    }

    private static List<Refused> withSomeEntries() {
        List<Refused> all = withoutAMeeting();
        all.addAll(ofSomeEntries());
        return all;
    }

    private static List<Refused> inAMeeting() {
        List<Refused> all = ofSomeEntries();
        for (int a = 0; a < 5; a++) {
            int first = a;
            all.add(new Refused("meet " + first, BAD_STATE, x -> nothing(() -> x.meet(first, (first + 1) % 5))));
            all.add(new Refused("meet, turned " + first, BAD_STATE, x -> nothing(() -> x.meet((first + 1) % 5, first))));
        }
        return all;
    }

    private static List<Refused> withoutAMeetingAtFortyEntries() {
        List<Refused> all = withoutAMeeting();
        all.addAll(atFortyEntries());
        return all;
    }

    private static List<Refused> atFortyEntries() {
        List<Refused> all = new ArrayList<>();
        all.add(new Refused("lend at 40", BAD_STATE, x -> x.lend(5, 1)));
        all.add(new Refused("lend of a lent plot at 40", BAD_STATE, x -> x.lend(0, 1)));
        all.add(new Refused("enter at 40, office", BAD_STATE, x -> x.enter(0, 0, 0, 1, 99)));
        all.add(new Refused("enter at 40, tablet", BAD_STATE, x -> x.enter(1, 0, 0, 1, 99)));
        all.add(new Refused("giveBack at 40", BAD_STATE, x -> x.giveBack(1, 0)));
        all.add(new Refused("resolve at 40", BAD_STATE, x -> x.resolve(0, 33)));
        all.add(new Refused("resolve nothing at 40", NO_ELEMENT, x -> x.resolve(1, 33)));
        illegal(all, "resolve to 9 at 40", x -> x.resolve(0, 9));
        return all;
    }

    private static List<Refused> withoutAMeeting() {
        List<Refused> all = new ArrayList<>();
        all.add(new Refused("swap without a meeting", BAD_STATE, x -> x.swap() ? 1 : 0));
        all.add(new Refused("part without a meeting", BAD_STATE, x -> nothing(x::part)));
        return all;
    }

    private static List<Refused> ofSomeEntries() {
        List<Refused> all = new ArrayList<>();
        all.add(new Refused("lend of a lent plot", BAD_STATE, x -> x.lend(0, 2)));
        all.add(new Refused("lend of a plot given back unknown", BAD_STATE, x -> x.lend(2, 2)));
        all.add(new Refused("giveBack of another's", BAD_STATE, x -> x.giveBack(2, 0)));
        all.add(new Refused("giveBack of what was given back", BAD_STATE, x -> x.giveBack(1, 2)));
        all.add(new Refused("giveBack of an unknown lend", BAD_STATE, x -> x.giveBack(4, 1)));
        all.add(new Refused("resolve behind the last", NO_ELEMENT, x -> x.resolve(1, 33)));
        all.add(new Refused("value that another has", NO_ELEMENT, x -> x.value(4, 0, 0, 1)));
        for (int bad : new int[] {MIN, 9, 2001, MAX}) {
            illegal(all, "resolve to " + bad, x -> x.resolve(0, bad));
        }
        return all;
    }

    /**
     * Plot 0 is lent to 1; 1 to 4, who does not know; 2 was lent to 1 and given back, what the office does not know.
     * Field 1 of tree 0 of plot 3 is in conflict at the office, and tree 0 of plot 0 has all fields at 1 and 2.
     */
    private static ForestTablets someEntries() {
        ForestTablets x = new ForestTablets();
        x.lend(0, 1);
        x.lend(2, 1);
        World.meeting(x, 0, 1);
        x.lend(1, 4);
        x.enter(1, 3, 0, 1, 11);
        x.enter(2, 3, 0, 1, 22);
        World.meeting(x, 1, 0);
        World.meeting(x, 2, 0);
        x.enter(1, 0, 0, 0, 1);
        x.enter(1, 0, 0, 1, 300);
        x.enter(1, 0, 0, 2, 250);
        x.giveBack(1, 2);
        x.enter(2, 0, 0, 0, 1);
        x.enter(2, 0, 0, 1, 200);
        x.enter(2, 0, 0, 2, 150);
        x.enter(3, 0, 0, 1, 100);
        x.stand(4, 2);
        return x;
    }

    /** 3 has given 1 its entry; neither has kept what the other one gave. */
    private static ForestTablets inAMeetingOfTablets() {
        ForestTablets x = someEntries();
        x.meet(3, 1);
        x.swap();
        x.swap();
        return x;
    }

    /** The office was given one of 2's entries, and has not kept it. */
    private static ForestTablets inAMeetingOfTheOffice() {
        ForestTablets x = someEntries();
        x.meet(2, 0);
        x.swap();
        return x;
    }

    /** The office and tablet 1, who holds plot 0, have 40 entries; one field is in conflict at the office. */
    private static ForestTablets withFortyEntries() {
        ForestTablets x = World.inConflict(1);
        x.lend(0, 1);
        World.meeting(x, 0, 1);
        World.fill(x, 0, 40);
        World.fill(x, 1, 40);
        return x;
    }

    /** The same two meet, and neither has kept what the other one gave. */
    private static ForestTablets withFortyEntriesInAMeeting() {
        ForestTablets x = withFortyEntries();
        x.meet(1, 0);
        for (int swaps = 0; swaps < 60 && x.known(1, 0) < 3; swaps++) {
            x.swap();
        }
        return x;
    }

    /** What may come after, to bring to light what is kept, who meets and what the next entry would be. */
    private static List<Call> tails() {
        List<Call> all = new ArrayList<>();
        all.add(x -> 0);
        all.add(x -> nothing(x::part));
        all.add(x -> nothing(() -> swapAll(x)));
        for (int d = 0; d < 5; d++) {
            int device = d;
            all.add(x -> nothing(() -> x.crash(device)));
        }
        all.add(x -> {
            for (int device = 0; device < 5; device++) {
                x.enter(device, 0, 0, 1, 500 + device);
            }
            return 0;
        });
        all.add(x -> x.lend(5, 1) * 100 + x.giveBack(1, 0));
        all.add(x -> x.resolve(0, 44));
        return all;
    }

    private static void swapAll(ForestTablets x) {
        int swaps = 0;
        while (swaps < 100 && x.swap()) {
            swaps++;
        }
        x.part();
    }

    /** Two halves, each of an object of its own: an object is used for at most 512 calls. */
    private static String pictures(State state, Refused refused, Call tail) {
        StringBuilder text = new StringBuilder();
        for (int half = 0; half < 2; half++) {
            ForestTablets x = state.made();
            if (refused != null) {
                outcome(x, refused.call);
            }
            text.append(outcome(x, tail)).append('\n');
            if (half == 0) {
                askEntries(x, text);
            } else {
                askSums(x, text);
            }
        }
        return text.toString();
    }

    private static void askEntries(ForestTablets x, StringBuilder text) {
        int[] places = {0, 1, 2, 301, 532};
        for (int d = 0; d < 5; d++) {
            int device = d;
            for (int o = 0; o < 5; o++) {
                int other = o;
                ask(text, x, y -> y.known(device, other));
            }
            for (int place : places) {
                int plot = place / 100;
                int tree = place / 10 % 10;
                int field = place % 10;
                ask(text, x, y -> y.value(device, plot, tree, field));
                for (int i = 0; i < 3; i++) {
                    int nth = i;
                    ask(text, x, y -> y.candidate(device, plot, tree, field, nth));
                }
            }
            ask(text, x, y -> y.conflict(device, 0));
            ask(text, x, y -> y.conflict(device, 1));
        }
        ask(text, x, y -> y.swap() ? 1 : 0);
        ask(text, x, y -> nothing(y::part));
    }

    private static void askSums(ForestTablets x, StringBuilder text) {
        for (int d = 0; d < 5; d++) {
            int device = d;
            for (int p = 0; p < 6; p++) {
                int plot = p;
                ask(text, x, y -> y.holder(device, plot, 0));
                ask(text, x, y -> y.holder(device, plot, 1));
            }
            for (int w = 0; w < 4; w++) {
                int what = w;
                ask(text, x, y -> y.plot(device, 0, what));
                ask(text, x, y -> y.plot(device, 5, what));
                for (int s = 0; s < 3; s++) {
                    int stand = s;
                    ask(text, x, y -> y.total(device, stand, what));
                }
            }
        }
    }

    private static void ask(StringBuilder text, ForestTablets x, Call question) {
        text.append(outcome(x, question)).append(' ');
    }

    private static String outcome(ForestTablets x, Call call) {
        return Due.outcome(() -> call.on(x));
    }

    private static void illegal(List<Refused> all, String name, Call call) {
        all.add(new Refused(name, ILLEGAL, call));
    }

    private static long nothing(Runnable call) {
        call.run();
        return 0;
    }
}
