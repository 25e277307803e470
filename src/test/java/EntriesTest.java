/** Promises 6, 7, 14, 15 and 16: enter, resolve, value, candidate, conflict. */
public final class EntriesTest {
    private static final Due due = new Due();

    public static void main(String[] args) {
        enterNumbersByAuthor();
        enterWrongInputs();
        enterEndsAtFortyEntries();
        laterValuesReplaceThoseTheyKnew();
        unknownValuesStandSideBySide();
        equalValuesAreNoConflict();
        theHolderOutranks();
        aValueAfterTheBackHasNoRank();
        aCandidateCanBeReplacedByOneOfLowerRank();
        strayOrder();
        knowingIsNotHandedOn();
        resolveEndsAConflict();
        resolveOutranksOldRanks();
        resolveOutranksAnAuthorsOlderRank();
        resolveAgainstALaterStray();
        resolveWrongInputs();
        resolveEndsAtFortyEntries();
        conflictsAreListedInOrder();
        askingWrongInputs();
        due.end();
    }

    private static void enterNumbersByAuthor() {
        ForestTablets x = new ForestTablets();
        due.is("first of 1", 1, () -> x.enter(1, 0, 0, 0, 3));
        due.is("second of 1", 2, () -> x.enter(1, 5, 3, 2, 600));
        due.is("first of the office", 1, () -> x.enter(0, 0, 0, 0, 2));
        due.is("first of 4", 1, () -> x.enter(4, 0, 0, 1, 10));
        due.is("value at 1", 3, () -> x.value(1, 0, 0, 0));
        due.is("value at 1", 600, () -> x.value(1, 5, 3, 2));
        due.is("value at the office", 2, () -> x.value(0, 0, 0, 0));
        due.noElement("other field", () -> x.value(1, 0, 0, 1));
        due.noElement("other tree", () -> x.value(1, 0, 1, 0));
        due.noElement("other plot", () -> x.value(1, 1, 0, 0));
        due.noElement("other device", () -> x.value(2, 0, 0, 0));
        due.is("first in the last place", 102, () -> x.candidate(1, 5, 3, 2, 0));
    }

    private static void enterWrongInputs() {
        ForestTablets x = new ForestTablets();
        due.illegal("device -1", () -> x.enter(-1, 0, 0, 0, 0));
        due.illegal("device 5", () -> x.enter(5, 0, 0, 0, 0));
        due.illegal("plot -1", () -> x.enter(0, -1, 0, 0, 0));
        due.illegal("plot 6", () -> x.enter(0, 6, 0, 0, 0));
        due.illegal("tree -1", () -> x.enter(0, 0, -1, 0, 0));
        due.illegal("tree 4", () -> x.enter(0, 0, 4, 0, 0));
        due.illegal("field -1", () -> x.enter(0, 0, 0, -1, 0));
        due.illegal("field 3", () -> x.enter(0, 0, 0, 3, 0));
        due.illegal("species -1", () -> x.enter(0, 0, 0, 0, -1));
        due.illegal("species 4", () -> x.enter(0, 0, 0, 0, 4));
        due.illegal("diameter 9", () -> x.enter(0, 0, 0, 1, 9));
        due.illegal("diameter 2001", () -> x.enter(0, 0, 0, 1, 2001));
        due.illegal("height 9", () -> x.enter(0, 0, 0, 2, 9));
        due.illegal("height 601", () -> x.enter(0, 0, 0, 2, 601));
        due.illegal("far out", () -> x.enter(Integer.MIN_VALUE, Integer.MAX_VALUE, 0, 0, 0));
        due.is("nothing entered", 0, () -> x.known(0, 0));
        int[][] edges = {{0, 0}, {0, 3}, {1, 10}, {1, 2000}, {2, 10}, {2, 600}};
        for (int i = 0; i < edges.length; i++) {
            int[] edge = edges[i];
            due.is("edge", i + 1, () -> x.enter(0, 0, 0, edge[0], edge[1]));
            due.is("edge shown", edge[1], () -> x.value(0, 0, 0, edge[0]));
        }
    }

    private static void enterEndsAtFortyEntries() {
        ForestTablets x = new ForestTablets();
        for (int i = 1; i <= 40; i++) {
            int number = i;
            due.is("entry", number, () -> x.enter(3, 0, 0, 2, 100 + number));
        }
        due.badState("forty-first entry", () -> x.enter(3, 0, 0, 2, 150));
        due.illegal("wrong input before state", () -> x.enter(3, 0, 0, 2, 9));
        due.is("the fortieth is shown", 140, () -> x.value(3, 0, 0, 2));
        due.is("the fortieth is the candidate", 340, () -> x.candidate(3, 0, 0, 2, 0));
        due.is("it alone", -1, () -> x.candidate(3, 0, 0, 2, 1));
        due.is("others may go on", 1, () -> x.enter(2, 0, 0, 2, 150));
    }

    private static void laterValuesReplaceThoseTheyKnew() {
        ForestTablets x = new ForestTablets();
        x.enter(4, 1, 1, 1, 40);
        due.meeting(x, 4, 1, 1);
        x.enter(1, 1, 1, 1, 50);
        due.meeting(x, 4, 1, 1);
        due.is("the later one, of the lesser author", 50, () -> x.value(4, 1, 1, 1));
        due.is("it is the candidate", 101, () -> x.candidate(4, 1, 1, 1, 0));
        due.is("it alone", -1, () -> x.candidate(4, 1, 1, 1, 1));
        due.is("no conflict", -1, () -> x.conflict(4, 0));
    }

    private static void unknownValuesStandSideBySide() {
        ForestTablets x = new ForestTablets();
        x.enter(3, 1, 1, 1, 30);
        x.enter(1, 1, 1, 1, 10);
        x.enter(1, 1, 1, 1, 11);
        due.meeting(x, 1, 3, 3);
        due.is("by author", 102, () -> x.candidate(3, 1, 1, 1, 0));
        due.is("by author", 301, () -> x.candidate(3, 1, 1, 1, 1));
        due.is("no more", -1, () -> x.candidate(3, 1, 1, 1, 2));
        due.is("far behind", -1, () -> x.candidate(3, 1, 1, 1, Integer.MAX_VALUE));
        due.is("the last one is shown", 30, () -> x.value(1, 1, 1, 1));
        due.is("in conflict", 111, () -> x.conflict(1, 0));
        due.is("once", -1, () -> x.conflict(1, 1));
        due.is("not in conflict for who knows none", -1, () -> x.conflict(2, 0));
    }

    private static void equalValuesAreNoConflict() {
        ForestTablets x = new ForestTablets();
        x.enter(1, 1, 1, 1, 10);
        x.enter(2, 1, 1, 1, 10);
        due.meeting(x, 1, 2, 2);
        due.is("no conflict", -1, () -> x.conflict(1, 0));
        due.is("two candidates", 201, () -> x.candidate(1, 1, 1, 1, 1));
        x.enter(3, 1, 1, 1, 11);
        due.meeting(x, 3, 1, 3);
        due.is("two of three differ", 111, () -> x.conflict(1, 0));
    }

    private static void theHolderOutranks() {
        ForestTablets x = new ForestTablets();
        x.lend(0, 1);
        due.meeting(x, 0, 1, 1);
        x.enter(2, 0, 0, 1, 200);
        x.enter(1, 0, 0, 1, 100);
        x.enter(1, 1, 0, 1, 100);
        x.enter(2, 1, 0, 1, 200);
        due.meeting(x, 1, 2, 5);
        due.is("the holder's is shown", 100, () -> x.value(2, 0, 0, 1));
        due.is("it is the candidate", 101, () -> x.candidate(2, 0, 0, 1, 0));
        due.is("the other is a stray", 1201, () -> x.candidate(2, 0, 0, 1, 1));
        due.is("no more", -1, () -> x.candidate(2, 0, 0, 1, 2));
        due.is("the other plot is in conflict, this one is not", 101, () -> x.conflict(2, 0));
        due.is("no more conflicts", -1, () -> x.conflict(2, 1));
    }

    private static void aValueAfterTheBackHasNoRank() {
        ForestTablets x = new ForestTablets();
        x.lend(0, 1);
        due.meeting(x, 0, 1, 1);
        x.giveBack(1, 0);
        x.enter(1, 0, 0, 1, 100);
        x.enter(2, 0, 0, 1, 200);
        due.meeting(x, 1, 2, 4);
        due.is("both are candidates", 102, () -> x.candidate(2, 0, 0, 1, 0));
        due.is("both are candidates", 201, () -> x.candidate(2, 0, 0, 1, 1));
        due.is("in conflict", 1, () -> x.conflict(2, 0));
    }

    private static void aCandidateCanBeReplacedByOneOfLowerRank() {
        ForestTablets x = new ForestTablets();
        x.lend(0, 1);
        due.meeting(x, 0, 1, 1);
        x.enter(1, 0, 0, 1, 100);
        due.meeting(x, 1, 2, 2);
        x.enter(2, 0, 0, 1, 200);
        due.is("what knew it replaces it", 200, () -> x.value(2, 0, 0, 1));
        due.is("alone", -1, () -> x.candidate(2, 0, 0, 1, 1));
        due.meeting(x, 1, 3, 2);
        x.enter(3, 0, 0, 1, 300);
        due.meeting(x, 3, 2, 2);
        due.is("the rank of what was replaced is gone", 201, () -> x.candidate(2, 0, 0, 1, 0));
        due.is("equals in rank", 301, () -> x.candidate(2, 0, 0, 1, 1));
    }

    private static void strayOrder() {
        ForestTablets x = new ForestTablets();
        x.lend(0, 2);
        due.meeting(x, 0, 2, 1);
        x.enter(4, 0, 0, 1, 400);
        x.enter(3, 0, 0, 1, 300);
        x.enter(2, 0, 0, 1, 200);
        x.enter(1, 0, 0, 1, 100);
        x.enter(0, 0, 0, 1, 50);
        due.meeting(x, 0, 4, 3);
        due.meeting(x, 1, 4, 4);
        due.meeting(x, 2, 4, 4);
        due.meeting(x, 3, 4, 6);
        int[] want = {201, 1002, 1101, 1301, 1401, -1};
        for (int i = 0; i < want.length; i++) {
            int place = i;
            due.is("place " + i, want[i], () -> x.candidate(4, 0, 0, 1, place));
        }
        due.is("the candidate is shown, not a stray", 200, () -> x.value(4, 0, 0, 1));
        due.is("strays make no conflict", -1, () -> x.conflict(4, 0));
    }

    /** 3 knows the office's value without 4's, that the office knew: what it enters did not know 4's. */
    private static void knowingIsNotHandedOn() {
        ForestTablets x = new ForestTablets();
        x.enter(4, 0, 0, 1, 400);
        due.meeting(x, 4, 0, 1);
        x.enter(0, 0, 0, 1, 50);
        x.meet(0, 3);
        due.is("the office's", 1, () -> x.swap() ? 1 : 0);
        due.is("enter", 1, () -> x.enter(3, 0, 0, 1, 300));
        x.crash(3);
        due.is("alone", 301, () -> x.candidate(3, 0, 0, 1, 0));
        due.meeting(x, 4, 3, 3);
        due.is("4's was known to the office's", 301, () -> x.candidate(3, 0, 0, 1, 0));
        due.is("so it is not listed", -1, () -> x.candidate(3, 0, 0, 1, 1));
        x.meet(3, 1);
        due.swaps(x, 3);
        due.is("at 1 likewise", -1, () -> x.candidate(1, 0, 0, 1, 1));
    }

    private static void resolveEndsAConflict() {
        ForestTablets x = inConflict();
        due.is("conflict", 111, () -> x.conflict(0, 0));
        due.is("resolve", 1, () -> x.resolve(0, 33));
        due.is("solved", -1, () -> x.conflict(0, 0));
        due.is("the value", 33, () -> x.value(0, 1, 1, 1));
        due.is("the candidate", 1, () -> x.candidate(0, 1, 1, 1, 0));
        due.is("alone", -1, () -> x.candidate(0, 1, 1, 1, 1));
        due.is("2 does not know of it", 111, () -> x.conflict(2, 0));
        due.meeting(x, 0, 2, 1);
        due.is("2 knows of it", -1, () -> x.conflict(2, 0));
        due.is("at 2", 33, () -> x.value(2, 1, 1, 1));
    }

    private static void resolveOutranksOldRanks() {
        ForestTablets x = new ForestTablets();
        x.lend(1, 1);
        due.meeting(x, 0, 1, 1);
        x.enter(1, 1, 1, 1, 10);
        due.meeting(x, 1, 2, 2);
        due.meeting(x, 1, 3, 2);
        x.enter(2, 1, 1, 1, 20);
        x.enter(3, 1, 1, 1, 30);
        x.enter(1, 1, 1, 1, 15);
        due.meeting(x, 2, 0, 2);
        due.meeting(x, 3, 0, 2);
        due.is("2 and 3 in conflict, with rank 0", 111, () -> x.conflict(0, 0));
        due.is("resolve, one above rank 1 of what was replaced", 2, () -> x.resolve(0, 25));
        due.meeting(x, 0, 1, 4);
        due.is("it outranks the holder's", 2, () -> x.candidate(1, 1, 1, 1, 0));
        due.is("the holder's is a stray", 1102, () -> x.candidate(1, 1, 1, 1, 1));
        due.is("no more", -1, () -> x.candidate(1, 1, 1, 1, 2));
    }

    /** The greatest rank is of a value that its own author has replaced by one of rank 0. */
    private static void resolveOutranksAnAuthorsOlderRank() {
        ForestTablets x = new ForestTablets();
        x.lend(1, 1);
        due.meeting(x, 0, 1, 1);
        x.enter(1, 1, 1, 1, 10);
        x.giveBack(1, 1);
        x.enter(1, 1, 1, 1, 15);
        x.enter(2, 1, 1, 1, 20);
        due.meeting(x, 1, 0, 3);
        due.meeting(x, 2, 0, 5);
        due.is("lend to 3", 2, () -> x.lend(1, 3));
        due.meeting(x, 0, 3, 6);
        due.is("conflict of rank 0", 111, () -> x.conflict(0, 0));
        due.is("resolve, one above rank 1", 3, () -> x.resolve(0, 30));
        due.is("enter with rank 2", 1, () -> x.enter(3, 1, 1, 1, 40));
        due.meeting(x, 0, 3, 2);
        due.is("both have rank 2", 3, () -> x.candidate(3, 1, 1, 1, 0));
        due.is("both have rank 2", 301, () -> x.candidate(3, 1, 1, 1, 1));
        due.is("no more", -1, () -> x.candidate(3, 1, 1, 1, 2));
        due.is("in conflict again", 111, () -> x.conflict(0, 0));
        due.is("resolve, one above rank 2", 4, () -> x.resolve(0, 50));
        due.is("solved", -1, () -> x.conflict(0, 0));
    }

    private static void resolveAgainstALaterStray() {
        ForestTablets x = inConflict();
        x.enter(3, 1, 1, 1, 99);
        due.is("resolve", 1, () -> x.resolve(0, 33));
        due.meeting(x, 3, 0, 4);
        due.is("what did not know of it is a stray", 1, () -> x.candidate(0, 1, 1, 1, 0));
        due.is("what did not know of it is a stray", 1301, () -> x.candidate(0, 1, 1, 1, 1));
        due.is("no conflict", -1, () -> x.conflict(0, 0));
        due.noElement("nothing to resolve", () -> x.resolve(0, 33));
    }

    private static void resolveWrongInputs() {
        ForestTablets x = new ForestTablets();
        due.noElement("no conflict", () -> x.resolve(0, 33));
        ForestTablets y = inConflict();
        due.noElement("only one", () -> y.resolve(1, 33));
        due.noElement("below 0", () -> y.resolve(-1, 33));
        due.noElement("none before a wrong value", () -> y.resolve(1, 9));
        due.illegal("diameter 9", () -> y.resolve(0, 9));
        due.illegal("diameter 2001", () -> y.resolve(0, 2001));
        due.is("nothing entered", 0, () -> y.known(0, 0));
        due.is("still in conflict", 111, () -> y.conflict(0, 0));
        due.is("resolve", 1, () -> y.resolve(0, 2000));
    }

    private static void resolveEndsAtFortyEntries() {
        ForestTablets x = inConflict();
        for (int i = 0; i < 39; i++) {
            x.enter(0, 5, 0, 0, 0);
        }
        x.enter(1, 2, 0, 0, 1);
        x.enter(2, 2, 0, 0, 2);
        x.meet(1, 0);
        x.swap();
        x.part();
        x.meet(2, 0);
        x.swap();
        x.part();
        due.is("second conflict", 200, () -> x.conflict(0, 1));
        due.illegal("species 4", () -> x.resolve(1, 4));
        due.is("fortieth entry", 40, () -> x.resolve(1, 3));
        due.badState("forty-first entry", () -> x.resolve(0, 33));
        due.illegal("wrong value before state", () -> x.resolve(0, 9));
        due.noElement("none before state", () -> x.resolve(1, 33));
    }

    private static void conflictsAreListedInOrder() {
        ForestTablets x = new ForestTablets();
        int[][] places = {{5, 3, 2}, {0, 0, 1}, {0, 1, 0}, {3, 0, 2}, {0, 0, 0}};
        for (int[] p : places) {
            x.enter(1, p[0], p[1], p[2], p[2] == 0 ? 1 : 11);
            x.enter(2, p[0], p[1], p[2], p[2] == 0 ? 2 : 12);
        }
        x.enter(1, 4, 0, 1, 77);
        x.enter(2, 4, 0, 1, 77);
        due.meeting(x, 2, 1, 12);
        int[] want = {0, 1, 10, 302, 532, -1, -1};
        for (int i = 0; i < want.length; i++) {
            int place = i;
            due.is("conflict " + i, want[i], () -> x.conflict(1, place));
        }
        due.is("far behind", -1, () -> x.conflict(1, Integer.MAX_VALUE));
    }

    private static void askingWrongInputs() {
        ForestTablets x = inConflict();
        int[][] bad = {{-1, 0, 0, 0}, {5, 0, 0, 0}, {0, -1, 0, 0}, {0, 6, 0, 0},
                       {0, 0, -1, 0}, {0, 0, 4, 0}, {0, 0, 0, -1}, {0, 0, 0, 3}};
        for (int[] b : bad) {
            due.illegal("value", () -> x.value(b[0], b[1], b[2], b[3]));
            due.illegal("candidate", () -> x.candidate(b[0], b[1], b[2], b[3], 0));
        }
        due.illegal("candidate below 0", () -> x.candidate(0, 1, 1, 1, -1));
        due.illegal("conflict below 0", () -> x.conflict(0, -1));
        due.illegal("conflict device -1", () -> x.conflict(-1, 0));
        due.illegal("conflict device 5", () -> x.conflict(5, 0));
    }

    /** The office and 2 know that 1 and 2 have entered 10 and 20 for field 1 of tree 1 of plot 1. */
    private static ForestTablets inConflict() {
        ForestTablets x = new ForestTablets();
        x.enter(1, 1, 1, 1, 10);
        x.enter(2, 1, 1, 1, 20);
        due.meeting(x, 1, 2, 2);
        due.meeting(x, 2, 0, 2);
        return x;
    }
}
