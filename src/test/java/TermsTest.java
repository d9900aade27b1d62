/**
 * The sentences under 'Terms' that name a boundary case: of the answers, the rows, the pegs. The
 * comment at a test names the promises for whose calls the sentence speaks.
 */
public final class TermsTest extends Sentences {
    public static void main(String[] args) {
        runAll(TermsTest.class);
    }

    // ---- Answers: "of several the first of these"

    // Promises 23 to 26.
    static void answersBadAheadOfFree() {
        Pegrow x = new Pegrow();
        allAre("bad and free", BAD, x.side(0, 4), x.change(0, 10), x.add(0, 10));
    }

    // Promises 21 to 26: of a peg that was old or had lost its hand, and whose row is full now.
    static void answersFreeAheadOfTheRest() {
        Pegrow x = full();
        x.peg(0, 1, 0);
        x.next(0);
        x.peg(1, 1, 0);
        x.put(1, 1, true, 0);
        x.peg(2, 1, 0);
        x.next(2);
        x.lay(1, 0, 1);
        x.copy(1, 0);
        for (int peg = 0; peg < 4; peg++) {
            allAre("free, peg " + peg, FREE, x.next(peg), x.previous(peg), x.side(peg, 0), x.change(peg, 1),
                    x.add(peg, 1), x.remove(peg), x.old(peg));
        }
        is("refusals", refusals(x), "1 0 0 0");
    }

    // Promises 2, 7, 12, 16, 25.
    static void answersBadAheadOfFull() {
        Pegrow x = full();
        x.peg(0, 0, 60);
        allAre("bad and full", BAD, x.put(0, 10, true, 0), x.put(0, 1, true, 3), x.insert(0, 0, 10),
                x.all(0, 0, 0), x.weave(0, 0), x.add(0, 10));
    }

    // Promises 23, 24, 25.
    static void answersBadAheadOfOld() {
        Pegrow x = pegged();
        x.put(0, 1, true, 0);
        allAre("bad and old", BAD, x.side(0, -1), x.change(0, -1), x.add(0, -1));
    }

    // Promises 5 to 8, 12, 20.
    static void answersBadAheadOfPlace() {
        Pegrow x = with(1);
        allAre("bad and no place", BAD, x.at(3, 1), x.lay(0, 1, 10), x.insert(0, 2, 10), x.drop(3, 1),
                x.all(0, 2, 0), x.peg(4, 0, 2), x.peg(0, 3, 2));
    }

    // Promises 3, 4, 9.
    static void answersBadAheadOfEmpty() {
        Pegrow x = new Pegrow();
        allAre("bad and empty", BAD, x.end(0, true, 2), x.end(0, false, 4), x.take(0, true, 2),
                x.take(0, false, 5), x.find(0, 10, false));
    }

    // Promise 24.
    static void answersBadAheadOfState() {
        Pegrow x = pegged();
        is("bad, with nothing in hand", x.change(0, 10), BAD);
    }

    // Promise 24.
    static void answersBadAheadOfLost() {
        Pegrow x = handed();
        x.lay(0, 1, 4);
        is("bad and lost", x.change(0, 10), BAD);
        x.peg(0, 0, 3);
        x.next(0);
        is("bad and lost by a miss", x.change(0, 10), BAD);
    }

    // Promise 25.
    static void answersFullAheadOfOld() {
        Pegrow x = full();
        x.peg(0, 0, 5);
        x.take(0, true, 0);
        x.put(0, 1, true, 0);
        is("full and old", x.add(0, 1), FULL);
        is("refusals", refusals(x), NO_REFUSALS);
    }

    // Promises 7, 12.
    static void answersFullAheadOfPlace() {
        Pegrow x = full();
        fill(x, 1, 1);
        allAre("full and no place", FULL, x.insert(0, 61, 1), x.insert(0, -1, 1), x.all(0, 61, 1), x.all(0, -2, 1));
        is("refusals", refusals(x), NO_REFUSALS);
    }

    // Promises 21, 22.
    static void answersOldAheadOfEmpty() {
        Pegrow x = pegged();
        x.clear(0);
        allAre("old, and none to go over", OLD, x.next(0), x.previous(0));
    }

    // Promises 24, 26.
    static void answersOldAheadOfState() {
        Pegrow x = pegged();
        x.clear(0);
        allAre("old, with nothing in hand", OLD, x.change(0, 1), x.remove(0));
    }

    // Promises 24, 26.
    static void answersOldAheadOfLost() {
        Pegrow x = handed();
        x.lay(0, 1, 4);
        x.put(0, 5, true, 0);
        allAre("old and lost by lay", OLD, x.change(0, 1), x.remove(0));
        x.peg(0, 0, 0);
        x.previous(0);
        x.put(0, 5, true, 0);
        allAre("old and lost by a miss", OLD, x.change(0, 1), x.remove(0));
    }

    // ---- Answers: what the library refuses is counted by its kind, the rest is not

    // Promises 2 to 28.
    static void answersBadIsNotCounted() {
        Pegrow x = new Pegrow();
        allAre("bad", BAD, x.put(3, 0, true, 0), x.end(3, true, 0), x.take(3, true, 0), x.at(3, 0), x.lay(3, 0, 0),
                x.insert(3, 0, 0), x.drop(3, 0), x.find(3, 0, true), x.has(3, 0), x.lose(3, 0, 0), x.all(3, 0, 0),
                x.clear(3), x.copy(3, 0), x.turn(3), x.weave(3, 0), x.prune(3), x.size(3), x.sum(3), x.peg(4, 0, 0),
                x.next(4), x.previous(4), x.side(4, 0), x.change(4, 0), x.add(4, 0), x.remove(4), x.old(4), x.count(7));
        is("refusals", refusals(x), NO_REFUSALS);
    }

    // Promises 21 to 27.
    static void answersFreeIsNotCounted() {
        Pegrow x = new Pegrow();
        allAre("free", FREE, x.next(0), x.previous(0), x.side(0, 0), x.change(0, 0), x.add(0, 0), x.remove(0), x.old(0));
        is("refusals", refusals(x), NO_REFUSALS);
    }

    // Promises 2, 7, 12, 16, 25.
    static void answersFullIsNotCounted() {
        Pegrow x = full();
        fill(x, 1, 1);
        x.peg(0, 0, 0);
        allAre("full", FULL, x.put(0, 1, true, 0), x.insert(0, 0, 1), x.all(0, 0, 1), x.weave(0, 1), x.add(0, 1));
        is("refusals", refusals(x), NO_REFUSALS);
    }

    // Promises 24, 26.
    static void answersLostIsNotCounted() {
        Pegrow x = handed();
        x.lay(0, 1, 4);
        allAre("lost", LOST, x.change(0, 1), x.remove(0));
        is("refusals", refusals(x), NO_REFUSALS);
        x.peg(0, 0, 0);
        x.previous(0);
        allAre("lost by a miss", LOST, x.change(0, 1), x.remove(0));
        is("refusals", refusals(x), "1 0 0 0");
    }

    // Promises 3, 4, 21, 22.
    static void answersEmptyIsKind0() {
        Pegrow x = new Pegrow();
        x.peg(0, 0, 0);
        allAre("empty", EMPTY, x.end(0, false, 0), x.end(0, true, 0), x.end(0, false, 2), x.take(0, false, 0),
                x.take(0, true, 0), x.take(0, false, 2), x.take(0, false, 4), x.next(0), x.previous(0));
        is("refusals", refusals(x), "9 0 0 0");
    }

    // Promises 3, 4, 9: "where it is so told below".
    static void answersEmptyIsNotAlwaysRefused() {
        Pegrow x = new Pegrow();
        allAre("empty", EMPTY, x.end(0, false, 1), x.end(0, true, 1), x.end(0, false, 3), x.take(0, false, 1),
                x.take(0, true, 1), x.take(0, false, 3), x.find(0, 0, false), x.find(0, 0, true));
        is("refusals", refusals(x), NO_REFUSALS);
    }

    // Promises 5 to 8, 12, 20.
    static void answersPlaceIsKind1() {
        Pegrow x = with(1);
        fill(x, 1, 2);
        allAre("no place", PLACE, x.at(0, 1), x.lay(0, 1, 0), x.insert(0, 2, 0), x.drop(0, 1), x.all(0, 2, 1),
                x.peg(0, 0, 2));
        is("refusals", refusals(x), "0 6 0 0");
    }

    // Promises 24, 26.
    static void answersStateIsKind2() {
        Pegrow x = pegged();
        allAre("nothing in hand", STATE, x.change(0, 1), x.remove(0));
        is("refusals", refusals(x), "0 0 2 0");
    }

    // Promises 21, 22, 24, 25, 26.
    static void answersOldIsKind3() {
        Pegrow x = handed();
        x.put(0, 4, true, 0);
        allAre("old", OLD, x.next(0), x.previous(0), x.change(0, 1), x.add(0, 1), x.remove(0));
        is("refusals", refusals(x), "0 0 0 5");
    }

    // Promise 23: "the library is not asked".
    static void answersOldOfSideIsNotCounted() {
        Pegrow x = pegged();
        x.put(0, 4, true, 0);
        allAre("old", OLD, x.side(0, 0), x.side(0, 1), x.side(0, 2), x.side(0, 3));
        is("refusals", refusals(x), NO_REFUSALS);
    }

    // Promises 21, 22, 24, 26: "Of an OLD PEG it is OLD, and counted as that".
    static void answersOldIsCountedAsThatWhateverElseIsAmiss() {
        Pegrow x = new Pegrow();
        x.peg(0, 0, 0);
        x.put(0, 1, true, 0);
        x.take(0, true, 0);
        allAre("old, at both ends, with nothing in hand", OLD, x.next(0), x.previous(0), x.change(0, 1), x.remove(0));
        is("refusals", refusals(x), "0 0 0 4");
    }

    // ---- Answers: "A call that answers one of the eight changes nothing"

    // What a peg has in hand is still there, behind all that may change nothing.
    private static void unchanged(Pegrow x, String before) {
        is("what may not be changed", state(x), before);
        is("what peg 0 has in hand", x.change(0, 9), 12);
    }

    // Promises 2 to 28.
    static void answersBadChangesNothing() {
        Pegrow x = handed();
        String before = state(x);
        allAre("bad", BAD, x.put(0, 10, true, 0), x.put(0, 1, true, 3), x.end(0, true, 2), x.take(0, true, 4),
                x.lay(0, 1, 10), x.insert(0, 0, 10), x.find(0, 10, true), x.has(0, 10), x.lose(0, 1, 3), x.all(0, 0, 0),
                x.copy(0, 0), x.copy(0, 3), x.weave(0, 0), x.peg(0, 3, 0), x.side(0, 4), x.change(0, 10), x.add(0, 10),
                x.count(-1));
        unchanged(x, before);
    }

    // Promises 21 to 27.
    static void answersFreeChangesNothing() {
        Pegrow x = handed();
        String before = state(x);
        allAre("free", FREE, x.next(3), x.previous(3), x.side(3, 0), x.change(3, 1), x.add(3, 1), x.remove(3), x.old(3));
        unchanged(x, before);
    }

    // Promises 2, 7, 12, 16, 25.
    static void answersFullChangesNothing() {
        Pegrow x = with(1, 2, 3);
        fillTo(x, 0, 60);
        fill(x, 1, 4);
        x.peg(0, 0, 1);
        x.next(0);
        String before = state(x);
        allAre("full", FULL, x.put(0, 1, true, 0), x.put(0, 1, false, 0), x.insert(0, 30, 1), x.all(0, 0, 1),
                x.all(1, 0, 0), x.weave(0, 1), x.weave(1, 0), x.add(0, 1));
        unchanged(x, before);
    }

    // Promises 21 to 26.
    static void answersOldChangesNothing() {
        Pegrow x = handed();
        x.peg(1, 0, 1);
        x.next(1);
        x.add(1, 4);
        x.previous(1);
        x.remove(1);
        String before = state(x);
        allAre("old", OLD, x.next(0), x.previous(0), x.side(0, 2), x.change(0, 1), x.add(0, 1), x.remove(0));
        is("what may not be changed", state(x), before);
        is("row", row(x, 0), "1 12 23");
    }

    // Promises 5 to 8, 12, 20.
    static void answersPlaceChangesNothing() {
        Pegrow x = handed();
        fill(x, 1, 4);
        String before = state(x);
        allAre("no place", PLACE, x.at(0, 3), x.lay(0, 3, 1), x.insert(0, 4, 1), x.drop(0, 3), x.all(0, 4, 1),
                x.peg(0, 0, 4), x.peg(0, 1, 2));
        unchanged(x, before);
    }

    // Promises 3, 4, 9.
    static void answersEmptyChangesNothing() {
        Pegrow x = handed();
        x.peg(1, 1, 0);
        String before = state(x);
        allAre("empty", EMPTY, x.end(1, false, 0), x.end(1, true, 1), x.take(1, false, 0), x.take(1, true, 1),
                x.take(1, false, 2), x.take(1, false, 3), x.take(1, false, 4), x.find(0, 0, true));
        unchanged(x, before);
    }

    // Promises 21, 22: but for the hand.
    static void answersEmptyOfPegChangesNothingElse() {
        Pegrow x = handed();
        x.peg(1, 0, 3);
        x.peg(2, 0, 0);
        String before = state(x);
        allAre("empty", EMPTY, x.next(1), x.previous(2));
        unchanged(x, before);
    }

    // Promises 24, 26.
    static void answersStateChangesNothing() {
        Pegrow x = handed();
        x.peg(1, 0, 1);
        String before = state(x);
        allAre("nothing in hand", STATE, x.change(1, 1), x.remove(1));
        unchanged(x, before);
    }

    // Promises 24, 26.
    static void answersLostChangesNothing() {
        Pegrow x = handed();
        x.peg(1, 0, 3);
        x.previous(1);
        x.lay(0, 2, 4);
        String before = state(x);
        allAre("lost", LOST, x.change(1, 1), x.remove(1));
        unchanged(x, before);
    }

    // ---- Rows

    // Promises 2 to 20: "There are the ROWS 0 to 2".
    static void rowsAre0To2() {
        Pegrow x = new Pegrow();
        for (int row = 0; row < 3; row++) {
            is("put into row " + row, x.put(row, row, true, 0), 1);
        }
        for (int row = 0; row < 3; row++) {
            is("the one thing of row " + row, x.at(row, 0), 11 * row);
        }
        for (int row : NO_ROWS) {
            is("put into row " + row, x.put(row, 1, true, 0), BAD);
        }
    }

    // Promises 1, 18, 19: "without THINGS at first".
    static void rowsHaveNoThingsAtFirst() {
        Pegrow x = new Pegrow();
        allAre("size", 0, x.size(0), x.size(1), x.size(2));
    }

    // Promises 2, 18: "of 60 at most", each of the three.
    static void rowsHave60ThingsAtMost() {
        Pegrow x = new Pegrow();
        for (int row = 0; row < 3; row++) {
            fillTo(x, row, 59);
            is("the 60th thing", x.put(row, 1, true, 0), 60);
            is("the 61st thing", x.put(row, 1, true, 0), FULL);
        }
    }

    // Promises 5, 9: "their places count from 0 on".
    static void rowsPlacesCountFrom0() {
        Pegrow x = full();
        is("the first", x.at(0, 0), 0);
        is("the second", x.at(0, 1), 11);
        is("the last", x.at(0, 59), 599);
        allAre("places that are none", PLACE, x.at(0, -1), x.at(0, 60));
    }

    // Promises 2, 6, 7, 9, 10, 11, 24, 25: "A THING has a NAME, 0 to 9".
    static void rowsNamesAre0To9() {
        Pegrow x = new Pegrow();
        for (int name = 0; name < 10; name++) {
            is("put name " + name, x.put(0, name, true, 0), name + 1);
            is("find name " + name, x.find(0, name, false), name);
        }
        for (int name : NO_NAMES) {
            is("put name " + name, x.put(0, name, true, 0), BAD);
        }
    }

    // Promises 2, 6, 7, 24, 25: "how many THINGS were made ahead of it", in whatever row.
    static void rowsMarksCountAllThatWereMade() {
        Pegrow x = new Pegrow();
        x.put(0, 0, true, 0);
        x.put(1, 0, true, 0);
        x.insert(2, 0, 0);
        x.take(1, true, 0);
        x.peg(0, 0, 1);
        x.add(0, 0);
        x.previous(0);
        x.change(0, 0);
        x.lay(2, 0, 0);
        x.put(1, 0, true, 0);
        is("row 0", row(x, 0), "0 40");
        is("row 1", row(x, 1), "60");
        is("row 2", row(x, 2), "50");
        is("made", x.count(0), 7);
    }

    // Promises 2, 6, 7, 24, 25: "a call that is refused makes none".
    static void rowsRefusedCallMakesNoThing() {
        Pegrow x = full();
        x.peg(0, 0, 60);
        allAre("full", FULL, x.put(0, 1, true, 0), x.insert(0, 0, 1), x.add(0, 1));
        is("no place", x.lay(0, 60, 1), PLACE);
        is("no place", x.insert(1, 1, 1), PLACE);
        is("nothing in hand", x.change(0, 1), STATE);
        x.next(0);
        is("lost", x.change(0, 1), LOST);
        x.take(0, true, 0);
        allAre("old", OLD, x.add(0, 1), x.change(0, 1));
        allAre("free", FREE, x.add(1, 1), x.change(1, 1));
        allAre("bad", BAD, x.put(0, 10, true, 0), x.lay(0, 0, 10), x.insert(0, 0, 10), x.add(0, 10), x.change(0, 10));
        is("made", x.count(0), 60);
        x.put(1, 7, true, 0);
        is("the next one's mark is 60", x.at(1, 0), 607);
    }

    // Promises 8, 11 to 17: calls that put and lay, but not by a name, make none.
    static void rowsOtherCallsMakeNoThing() {
        Pegrow x = with(1, 2, 3, 4);
        x.copy(1, 0);
        x.all(0, 0, 1);
        x.weave(0, 1);
        x.turn(0);
        x.prune(0);
        x.lose(0, 1, 0);
        x.drop(0, 0);
        x.clear(0);
        is("made", x.count(0), 4);
    }

    // Promises 9, 10, 11, 17: "Two THINGS are LIKE, if they have one NAME", whatever their marks.
    static void rowsThingsOfOneNameAreLike() {
        Pegrow x = with(0, 9, 0, 9);
        is("last 0", x.find(0, 0, true), 2);
        is("last 9", x.find(0, 9, true), 3);
        is("pruned", x.prune(0), 2);
        is("row", row(x, 0), "0 19");
    }

    // Promises 3 to 8: "10 times its MARK and its NAME, together".
    static void rowsThingIsToldByMarkAndName() {
        is("mark 0, name 0", with(0).at(0, 0), 0);
        is("mark 0, name 9", with(9).at(0, 0), 9);
        is("mark 1, name 0", with(9, 0).at(0, 1), 10);
    }

    // Promises 12, 14, 16: "One THING may stand in several ROWS, and several times in one".
    static void rowsOneThingMayStandInSeveralPlaces() {
        Pegrow x = with(5);
        x.copy(1, 0);
        x.all(0, 1, 1);
        x.copy(1, 0);
        x.weave(0, 1);
        is("row 0", row(x, 0), "5 5 5 5");
        is("row 1", row(x, 1), "5 5");
        is("one is laid over", x.lay(0, 1, 6), 5);
        is("row 0", row(x, 0), "5 16 5 5");
        is("row 1", row(x, 1), "5 5");
    }

    // All promises: "An object is used for at most 512 calls".
    static void rowsThingOfThe512thCall() {
        Pegrow x = with(9);
        for (int call = 2; call < 512; call++) {
            x.lay(0, 0, 9);
        }
        is("what the 512th call lays over", x.lay(0, 0, 9), 5109);
    }

    // Promise 28: as many things as can be made and counted.
    static void rowsThingsOf511Calls() {
        Pegrow x = with(9);
        for (int call = 2; call < 512; call++) {
            x.lay(0, 0, 9);
        }
        is("made", x.count(0), 511);
    }

    // ---- Pegs: where they stand

    // Promises 20 to 27: "There are the PEGS 0 to 3".
    static void pegsAre0To3() {
        Pegrow x = with(0, 1, 2, 3);
        for (int peg = 0; peg < 4; peg++) {
            is("peg " + peg, x.peg(peg, 0, peg), peg);
        }
        for (int peg = 0; peg < 4; peg++) {
            is("next of peg " + peg, x.next(peg), 11 * peg);
        }
        for (int peg : NO_PEGS) {
            is("peg " + peg, x.peg(peg, 0, 0), BAD);
        }
    }

    // Promises 1, 21 to 28: "which stand in no ROW at first".
    static void pegsStandInNoRowAtFirst() {
        Pegrow x = with(1);
        for (int peg = 0; peg < 4; peg++) {
            is("old", x.old(peg), FREE);
        }
        is("standing", x.count(5), 0);
    }

    // Promise 20: "0 to how many THINGS the ROW has".
    static void pegsStandAheadOfPlace0ToSize() {
        for (int size : new int[] {0, 1, 59, 60}) {
            Pegrow x = new Pegrow();
            fillTo(x, 0, size);
            is("at the front of " + size, x.peg(0, 0, 0), 0);
            is("at the end of " + size, x.peg(0, 0, size), size);
            allAre("nowhere in " + size, PLACE, x.peg(0, 0, size + 1), x.peg(0, 0, -1));
        }
    }

    // ---- Pegs: the hand

    // Promises 21, 24, 26: "that it went over last by next".
    static void handIsWhatNextWentOver() {
        Pegrow x = handed();
        x.next(0);
        is("taken", x.remove(0), 23);
    }

    // Promises 22, 24, 26: "or previous".
    static void handIsWhatPreviousWentOver() {
        Pegrow x = pegged();
        x.peg(0, 0, 3);
        x.previous(0);
        x.previous(0);
        is("taken", x.remove(0), 12);
    }

    // Promises 21, 22: the last one, also to and fro.
    static void handIsTheLastToAndFro() {
        Pegrow x = pegged();
        x.next(0);
        x.previous(0);
        x.previous(0);
        is("laid over", x.change(0, 4), 1);
        x.next(0);
        is("the same again", x.change(0, 5), 34);
    }

    // Promise 24: "or that it laid itself by change".
    static void handIsWhatChangeLaid() {
        Pegrow x = handed();
        x.change(0, 4);
        is("laid over", x.change(0, 5), 34);
        is("taken", x.remove(0), 45);
    }

    // Promise 20: "nothing as it is set".
    static void handIsNothingAsPegIsSet() {
        Pegrow x = pegged();
        allAre("set", STATE, x.change(0, 4), x.remove(0));
        x.next(0);
        x.peg(0, 0, 2);
        allAre("set again", STATE, x.change(0, 4), x.remove(0));
    }

    // Promise 25: "behind its own add".
    static void handIsNothingBehindAdd() {
        Pegrow x = handed();
        x.add(0, 4);
        allAre("behind add", STATE, x.change(0, 5), x.remove(0));
    }

    // Promise 26: "and remove".
    static void handIsNothingBehindRemove() {
        Pegrow x = handed();
        x.remove(0);
        allAre("behind remove", STATE, x.change(0, 5), x.remove(0));
        x.previous(0);
        x.remove(0);
        allAre("behind remove of the one ahead", STATE, x.change(0, 5), x.remove(0));
    }

    // ---- Pegs: old

    // Three pegs in a row of three, at its front, inside, at its end; peg 3 in another row.
    private static Pegrow watched() {
        Pegrow x = with(1, 1, 3);
        fill(x, 1, 4, 5);
        x.peg(0, 0, 0);
        x.peg(1, 0, 1);
        x.peg(2, 0, 3);
        x.peg(3, 1, 1);
        return x;
    }

    // The same, but the row of the three pegs has no things.
    private static Pegrow watchedNone() {
        Pegrow x = new Pegrow();
        fill(x, 1, 4, 5);
        for (int peg = 0; peg < 3; peg++) {
            x.peg(peg, 0, 0);
        }
        x.peg(3, 1, 1);
        return x;
    }

    private static void grewOld(String by, Pegrow x) {
        allAre("old by " + by, 1, x.old(0), x.old(1), x.old(2));
        is("in another row, not old by " + by, x.old(3), 0);
        is("how many are old by " + by, x.count(6), 3);
    }

    private static void stayedYoung(String by, Pegrow x) {
        allAre("not old by " + by, 0, x.old(0), x.old(1), x.old(2), x.old(3), x.count(6));
    }

    // Promises 2, 7, 12, 16: "if a THING was put into its ROW".
    static void oldByWhatIsPut() {
        for (int way = 0; way < 3; way++) {
            Pegrow x = watched();
            x.put(0, 1, false, way);
            grewOld("put to the front, way " + way, x);
            x = watched();
            x.put(0, 1, true, way);
            grewOld("put to the end, way " + way, x);
        }
        for (int place = 0; place < 4; place++) {
            Pegrow x = watched();
            x.insert(0, place, 1);
            grewOld("insert", x);
        }
        for (int place = -1; place < 4; place++) {
            Pegrow x = watched();
            x.all(0, place, 1);
            grewOld("all", x);
        }
        Pegrow x = watched();
        x.weave(0, 1);
        grewOld("weave", x);
    }

    // Promises 2, 7, 12, 16: the same in a row that had none.
    static void oldByWhatIsPutIntoNone() {
        for (int way = 0; way < 3; way++) {
            Pegrow x = watchedNone();
            x.put(0, 1, false, way);
            grewOld("put to the front of none, way " + way, x);
            x = watchedNone();
            x.put(0, 1, true, way);
            grewOld("put to the end of none, way " + way, x);
        }
        Pegrow x = watchedNone();
        x.insert(0, 0, 1);
        grewOld("insert into none", x);
        for (int place = -1; place < 1; place++) {
            x = watchedNone();
            x.all(0, place, 1);
            grewOld("all into none", x);
        }
        x = watchedNone();
        x.weave(0, 1);
        grewOld("weave into none", x);
    }

    // Promises 4, 8, 11, 13, 17: "or taken out of it".
    static void oldByWhatIsTaken() {
        for (int way = 0; way < 5; way++) {
            Pegrow x = watched();
            x.take(0, false, way);
            grewOld("take from the front, way " + way, x);
        }
        for (int way = 0; way < 2; way++) {
            Pegrow x = watched();
            x.take(0, true, way);
            grewOld("take from the end, way " + way, x);
        }
        for (int how = 0; how < 3; how++) {
            Pegrow x = watched();
            x.lose(0, 1, how);
            grewOld("lose, how " + how, x);
        }
        for (int place = 0; place < 3; place++) {
            Pegrow x = watched();
            x.drop(0, place);
            grewOld("drop", x);
        }
        Pegrow x = watched();
        x.prune(0);
        grewOld("prune", x);
        x = watched();
        x.clear(0);
        grewOld("clear", x);
    }

    // Peg 0 by the other one, and just peg 0.
    private static void oldByTheOther(String by, Pegrow x) {
        is("old by " + by, x.old(0), 1);
        is("the one that did it, by " + by, x.old(1), 0);
        is("how many are old by " + by, x.count(6), 1);
    }

    // Promises 25, 26: "by anything but itself (also by a PEG that stands at the same place)".
    static void oldByAnotherPegAtWhateverPlace() {
        for (int place = 0; place < 4; place++) {
            for (int other = 0; other < 4; other++) {
                Pegrow x = with(1, 2, 3);
                x.peg(0, 0, place);
                x.peg(1, 0, other);
                x.add(1, 4);
                oldByTheOther("add", x);
                x.peg(0, 0, place);
                x.previous(1);
                x.remove(1);
                oldByTheOther("remove", x);
            }
        }
    }

    // Row 0 with three things; the pegs 0 and 1 have that at one place in hand.
    private static Pegrow twiceHanded(int place) {
        Pegrow x = with(1, 2, 3);
        for (int peg = 0; peg < 2; peg++) {
            x.peg(peg, 0, place);
            x.next(peg);
        }
        return x;
    }

    // Promises 25, 26: also by one that has the same thing in hand.
    static void oldByAnotherPegWithTheSameThingInHand() {
        for (int place = 0; place < 3; place++) {
            Pegrow x = twiceHanded(place);
            x.remove(1);
            oldByTheOther("remove", x);
            x = twiceHanded(place);
            x.add(1, 4);
            oldByTheOther("add", x);
        }
    }

    // Promises 25, 26: in a row that has none but that one thing.
    static void oldByAnotherPegInARowOfNone() {
        Pegrow x = new Pegrow();
        x.peg(0, 0, 0);
        x.peg(1, 0, 0);
        x.add(1, 4);
        oldByTheOther("add", x);
        x.peg(0, 0, 1);
        x.previous(1);
        x.remove(1);
        oldByTheOther("remove", x);
    }

    // Promises 25, 26: just the one by which it was done can go on.
    static void oldIsNoneByItself() {
        Pegrow x = pegged();
        x.add(0, 4);
        x.next(0);
        x.remove(0);
        x.add(0, 5);
        is("old", x.old(0), 0);
        is("previous", x.previous(0), 45);
        is("previous", x.previous(0), 34);
        is("row", row(x, 0), "1 34 45 23");
    }

    // Promises 6, 15, 24: "To lay a THING in place of another one puts and takes none".
    static void oldIsNoneByLaying() {
        for (int place = 0; place < 3; place++) {
            Pegrow x = watched();
            x.lay(0, place, 4);
            stayedYoung("lay", x);
            x.peg(1, 0, place);
            x.next(1);
            x.change(1, 5);
            stayedYoung("change", x);
        }
    }

    // Promise 15: the same, by whatever number of things.
    static void oldIsNoneByTurning() {
        for (int size = 0; size <= 60; size++) {
            Pegrow x = new Pegrow();
            fillTo(x, 0, size);
            x.peg(0, 0, 0);
            x.peg(1, 0, size / 2);
            x.peg(2, 0, size);
            x.peg(3, 1, 0);
            x.turn(0);
            stayedYoung("turn of " + size, x);
        }
    }

    // Promises 11, 12, 13, 16, 17: calls that have nothing to put or take.
    static void oldIsNoneByWhatPutsAndTakesNothing() {
        Pegrow x = with(1, 2, 3);
        x.peg(0, 0, 0);
        x.peg(1, 0, 1);
        x.peg(2, 0, 3);
        x.peg(3, 1, 0);
        x.lose(0, 4, 0);
        x.lose(0, 4, 1);
        x.lose(0, 4, 2);
        x.all(0, 0, 1);
        x.weave(0, 1);
        x.prune(0);
        x.clear(1);
        x.prune(1);
        x.turn(1);
        x.all(1, 0, 2);
        x.weave(1, 2);
        stayedYoung("nothing", x);
    }

    // Promises 2 to 20, 25, 26: calls that are refused, and calls that only look.
    static void oldIsNoneByRefusedCalls() {
        Pegrow x = watched();
        x.put(0, 10, true, 0);
        x.insert(0, 4, 1);
        x.drop(0, 3);
        x.all(0, 4, 1);
        x.take(2, true, 0);
        x.remove(0);
        x.end(0, true, 0);
        x.at(0, 0);
        x.find(0, 1, true);
        x.has(0, 1);
        x.size(0);
        x.sum(0);
        x.next(0);
        x.previous(0);
        x.side(0, 0);
        stayedYoung("refused calls and looks", x);
    }

    // Promises 20, 27: "since it was set".
    static void oldIsNoneByWhatWasAheadOfItsSetting() {
        Pegrow x = with(1, 2);
        x.drop(0, 0);
        x.peg(0, 0, 0);
        is("old", x.old(0), 0);
    }

    // Promise 27: "An OLD PEG stays so", though its row is again as it was.
    static void oldStaysThoughTheRowIsAsItWas() {
        Pegrow x = with(1, 2);
        x.copy(1, 0);
        x.peg(0, 0, 1);
        x.put(0, 3, true, 0);
        x.take(0, true, 0);
        is("old, and the thing taken back", x.old(0), 1);
        x.peg(0, 0, 1);
        x.clear(0);
        x.all(0, 0, 1);
        is("old, and all put back", x.old(0), 1);
    }

    // Promises 27, 28: "stays so", however often it is changed, also 256 times.
    static void oldStaysHoweverOftenTheRowIsChanged() {
        Pegrow x = new Pegrow();
        x.peg(0, 0, 0);
        x.put(0, 1, true, 0);
        x.peg(1, 0, 1);
        x.take(0, true, 0);
        for (int i = 0; i < 165; i++) {
            x.put(0, 1, true, 0);
            int between = i % 2 == 0 ? 2 : x.count(6);
            x.take(0, true, 0);
            int behind = i % 2 == 0 ? x.count(6) : 2;
            allAre("old", 2, between, behind);
        }
    }

    // Promises 20, 27: "until it is set again".
    static void oldUntilSetAgain() {
        Pegrow x = pegged();
        x.take(0, false, 0);
        x.peg(0, 0, 0);
        is("set again there", x.old(0), 0);
        is("next", x.next(0), 12);
        x.take(0, false, 0);
        x.peg(0, 1, 0);
        is("set in another row", x.old(0), 0);
    }

    // Promise 20: a setting that is refused is none.
    static void oldStaysBehindRefusedSetting() {
        Pegrow x = pegged();
        x.take(0, false, 0);
        allAre("no place", PLACE, x.peg(0, 0, 3), x.peg(0, 1, 1));
        is("no row", x.peg(0, 3, 0), BAD);
        is("old", x.old(0), 1);
    }

    // Promises 14, 27, 28: "or stands in no ROW (then it is not OLD)".
    static void oldUntilItStandsInNoRow() {
        Pegrow x = pegged();
        x.take(0, false, 0);
        is("old ones", x.count(6), 1);
        x.copy(0, 1);
        is("not old", x.old(0), FREE);
        is("old ones", x.count(6), 0);
    }

    // ---- Pegs: lost

    // Promises 6, 24, 26: "if another THING stands in its place now (by lay".
    static void lostByLay() {
        Pegrow x = handed();
        x.lay(0, 1, 2);
        allAre("lost, though a like one stands there", LOST, x.change(0, 4), x.remove(0));
    }

    // Promises 15, 24, 26: "turn".
    static void lostByTurn() {
        Pegrow x = pegged();
        x.previous(0);
        x.turn(0);
        allAre("lost", LOST, x.change(0, 4), x.remove(0));
    }

    // Promises 24, 26: "or another PEG's change".
    static void lostByAnotherPegsChange() {
        Pegrow x = handed();
        x.peg(1, 0, 2);
        x.previous(1);
        x.change(1, 2);
        allAre("lost", LOST, x.change(0, 4), x.remove(0));
        is("the other one's hand", x.remove(1), 32);
    }

    // Row 0 with one thing, told as 1, at both its ends, and 12 between; the pegs 0 and 1 have that at the front.
    private static Pegrow sameAtBothEnds() {
        Pegrow x = with(1, 2);
        x.copy(1, 0);
        x.take(1, true, 0);
        x.all(0, -1, 1);
        for (int peg = 0; peg < 2; peg++) {
            x.peg(peg, 0, 0);
            x.next(peg);
        }
        return x;
    }

    // Promises 6, 15, 24, 26: "as long as it is so", also behind a lay or a change, if a turn lays the same thing there.
    static void lostNoLongerAsTheSameThingIsLaidThere() {
        Pegrow x = sameAtBothEnds();
        x.lay(0, 0, 1);
        allAre("lost by lay", LOST, x.change(0, 4), x.remove(0));
        x.turn(0);
        is("the same thing from the other end", x.remove(0), 1);
        x = sameAtBothEnds();
        x.change(1, 1);
        allAre("lost by change", LOST, x.change(0, 4), x.remove(0));
        x.turn(0);
        is("the same thing from the other end", x.change(0, 4), 1);
    }

    // Promises 15, 24, 26: "as long as it is so".
    static void lostNoLongerAsItsThingIsBack() {
        Pegrow x = pegged();
        x.previous(0);
        x.turn(0);
        x.turn(0);
        is("turned back", x.change(0, 4), 1);
        x.turn(0);
        allAre("lost", LOST, x.change(0, 5), x.remove(0), x.change(0, 5));
        x.turn(0);
        is("turned back", x.change(0, 5), 34);
        x.turn(0);
        is("lost", x.remove(0), LOST);
        x.turn(0);
        is("turned back", x.remove(0), 45);
    }

    // Promises 15, 24, 26: "another THING": one thing that stands at both ends is none.
    static void lostNotByTheSameThing() {
        Pegrow x = sameAtBothEnds();
        x.turn(0);
        is("one thing at both ends", x.remove(0), 1);
    }

    // Promises 6, 15, 24: "in its place": what is laid beside it is not there.
    static void lostNotByWhatIsLaidElsewhere() {
        Pegrow x = handed();
        x.lay(0, 0, 4);
        x.lay(0, 2, 5);
        x.turn(0);
        is("in the middle of three", x.change(0, 6), 12);
    }

    // Promises 6, 21, 22: lost is what it had, and not what it goes over next.
    static void lostUntilPegGoesOverAThing() {
        Pegrow x = handed();
        x.lay(0, 1, 4);
        x.previous(0);
        is("what it went over", x.remove(0), 34);
    }

    // Promises 21, 24, 26: "behind a next that was EMPTY it is LOST".
    static void lostBehindNextThatWasEmpty() {
        Pegrow x = handed();
        x.next(0);
        x.next(0);
        allAre("lost", LOST, x.change(0, 4), x.remove(0));
    }

    // Promises 22, 24, 26: "or previous".
    static void lostBehindPreviousThatWasEmpty() {
        Pegrow x = pegged();
        x.previous(0);
        x.previous(0);
        allAre("lost", LOST, x.change(0, 4), x.remove(0));
    }

    // Promises 21, 22, 24, 26: "whether it had something in HAND or not", LOST and not STATE.
    static void lostWithNothingInHand() {
        Pegrow x = new Pegrow();
        x.peg(0, 0, 0);
        x.next(0);
        allAre("behind next", LOST, x.change(0, 4), x.remove(0));
        x.peg(0, 0, 0);
        x.previous(0);
        allAre("behind previous", LOST, x.change(0, 4), x.remove(0));
        is("refusals", refusals(x), "2 0 0 0");
    }

    // Promises 21, 24, 26: nothing else ends it: no lay or turn, no call of the peg that is refused.
    static void lostBehindMissWhateverIsLaid() {
        Pegrow x = pegged();
        x.peg(0, 0, 3);
        x.previous(0);
        x.next(0);
        x.next(0);
        x.turn(0);
        x.turn(0);
        x.lay(0, 1, 4);
        x.peg(0, 0, 9);
        x.peg(0, 3, 0);
        x.add(0, 10);
        for (int what = 0; what < 4; what++) {
            x.side(0, what);
        }
        x.old(0);
        x.peg(1, 0, 0);
        x.next(1);
        x.change(1, 5);
        allAre("lost", LOST, x.change(0, 4), x.remove(0), x.change(0, 4));
    }

    // Promises 21, 22: "until the PEG goes over a THING".
    static void lostBehindMissUntilItGoesOverAThing() {
        Pegrow x = with(1);
        x.peg(0, 0, 0);
        x.previous(0);
        x.next(0);
        is("behind next", x.change(0, 2), 1);
        x.next(0);
        x.previous(0);
        is("behind previous", x.remove(0), 12);
    }

    // Promise 25: "puts one by add": then it has nothing in hand.
    static void lostBehindMissUntilAdd() {
        Pegrow x = pegged();
        x.previous(0);
        x.previous(0);
        x.add(0, 4);
        allAre("nothing in hand", STATE, x.change(0, 5), x.remove(0));
    }

    // Promise 20: "or is set again": then it has nothing in hand.
    static void lostBehindMissUntilSetAgain() {
        Pegrow x = pegged();
        x.previous(0);
        x.previous(0);
        x.peg(0, 0, 0);
        allAre("nothing in hand", STATE, x.change(0, 5), x.remove(0));
    }
}
