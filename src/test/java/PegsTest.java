/** Promises 20 to 28: pegs. */
public final class PegsTest extends Sentences {
    public static void main(String[] args) {
        runAll(PegsTest.class);
    }

    // Peg 0 in row 0, and that row changed without it.
    private static Pegrow aged() {
        Pegrow x = handed();
        x.put(0, 4, true, 0);
        return x;
    }

    // ---- Promise 20: peg

    static void promise20AheadOfAPlace() {
        Pegrow x = with(1, 2, 3);
        for (int peg = 0; peg < 4; peg++) {
            is("peg " + peg, x.peg(peg, 0, peg), peg);
            is("ahead of it", x.side(peg, 2), peg);
        }
        is("at the front", x.next(0), 1);
        is("inside", x.next(1), 12);
        is("inside", x.next(2), 23);
        is("at the end", x.previous(3), 23);
    }

    static void promise20NoPlace() {
        Pegrow x = with(1, 2, 3);
        allAre("no place", PLACE, x.peg(0, 0, 4), x.peg(0, 0, -1), x.peg(0, 0, LOWEST), x.peg(0, 0, HIGHEST));
        is("refusals", refusals(x), "0 4 0 0");
        is("it stands in no row", x.old(0), FREE);
        is("standing", x.count(5), 0);
    }

    static void promise20RowWithoutThings() {
        Pegrow x = new Pegrow();
        allAre("no place", PLACE, x.peg(0, 1, 1), x.peg(0, 1, -1));
        is("ahead of place 0", x.peg(0, 1, 0), 0);
    }

    static void promise20AFullRow() {
        Pegrow x = full();
        is("ahead of place 61", x.peg(0, 0, 61), PLACE);
        is("ahead of place 60", x.peg(0, 0, 60), 60);
        is("previous", x.previous(0), 599);
    }

    static void promise20WhereverItStood() {
        Pegrow x = aged();
        fill(x, 1, 5, 6);
        is("from an old place", x.peg(0, 0, 4), 4);
        is("previous", x.previous(0), 34);
        is("into another row", x.peg(0, 1, 1), 1);
        is("next", x.next(0), 56);
        is("standing", x.count(5), 1);
    }

    static void promise20NothingInHand() {
        Pegrow x = handed();
        x.peg(0, 0, 2);
        is("set where it stood", x.remove(0), STATE);
        x.next(0);
        x.next(0);
        x.peg(0, 0, 3);
        is("set behind a miss", x.remove(0), STATE);
    }

    static void promise20RefusedLeavesItWhereItStood() {
        Pegrow x = handed();
        allAre("no place", PLACE, x.peg(0, 0, 4), x.peg(0, 1, 1));
        is("where it stands", x.side(0, 2), 2);
        is("in hand", x.change(0, 4), 12);
        is("next", x.next(0), 23);
    }

    static void promise20OtherPegsStandAsTheyStood() {
        Pegrow x = handed();
        x.peg(1, 0, 1);
        x.peg(2, 1, 0);
        is("old", x.old(0), 0);
        is("in hand", x.remove(0), 12);
    }

    static void promise20NoPegOrRow() {
        Pegrow x = handed();
        String before = state(x);
        for (int i = 0; i < 4; i++) {
            allAre("bad, " + i, BAD, x.peg(NO_PEGS[i], 0, 0), x.peg(0, NO_ROWS[i], 0), x.peg(0, NO_ROWS[i], 9));
        }
        is("state", state(x), before);
        is("refusals", refusals(x), NO_REFUSALS);
        is("in hand", x.remove(0), 12);
    }

    // ---- Promise 21: next

    static void promise21GoesOverEach() {
        Pegrow x = full();
        x.peg(0, 0, 0);
        for (int place = 0; place < 60; place++) {
            is("next", x.next(0), 10 * place + place % 10);
            is("ahead of it", x.side(0, 2), place + 1);
        }
        is("at the end", x.next(0), EMPTY);
    }

    static void promise21AtTheEnd() {
        Pegrow x = pegged();
        x.peg(0, 0, 3);
        allAre("at the end", EMPTY, x.next(0), x.next(0));
        is("refusals", refusals(x), "2 0 0 0");
        is("where it stands", x.side(0, 2), 3);
        is("what is ahead of it", x.previous(0), 23);
    }

    static void promise21OfNone() {
        Pegrow x = new Pegrow();
        x.peg(0, 0, 0);
        is("next of none", x.next(0), EMPTY);
        is("refusals", refusals(x), "1 0 0 0");
    }

    static void promise21InHandThen() {
        Pegrow x = pegged();
        x.next(0);
        is("in hand", x.change(0, 4), 12);
    }

    static void promise21LostAtTheEnd() {
        Pegrow x = pegged();
        x.next(0);
        x.next(0);
        x.next(0);
        allAre("lost", LOST, x.remove(0), x.change(0, 1));
    }

    static void promise21Old() {
        Pegrow x = aged();
        allAre("old", OLD, x.next(0), x.next(0));
        is("refusals", refusals(x), "0 0 0 2");
    }

    static void promise21SeesWhatItPutAndWasLaid() {
        Pegrow x = pegged();
        x.lay(0, 1, 4);
        is("what was laid", x.next(0), 34);
        x.add(0, 5);
        is("behind what it put", x.next(0), 23);
    }

    static void promise21NoPegOrFree() {
        Pegrow x = handed();
        for (int peg : NO_PEGS) {
            is("peg " + peg, x.next(peg), BAD);
        }
        allAre("free", FREE, x.next(1), x.next(2), x.next(3));
        is("refusals", refusals(x), NO_REFUSALS);
    }

    // ---- Promise 22: previous

    static void promise22GoesBackOverEach() {
        Pegrow x = full();
        x.peg(0, 0, 60);
        for (int place = 59; place >= 0; place--) {
            is("previous", x.previous(0), 10 * place + place % 10);
            is("ahead of it", x.side(0, 2), place);
        }
        is("at the front", x.previous(0), EMPTY);
    }

    static void promise22AtTheFront() {
        Pegrow x = pegged();
        x.peg(0, 0, 0);
        allAre("at the front", EMPTY, x.previous(0), x.previous(0));
        is("refusals", refusals(x), "2 0 0 0");
        is("where it stands", x.side(0, 2), 0);
        is("what is behind it", x.next(0), 1);
    }

    static void promise22OfNone() {
        Pegrow x = new Pegrow();
        x.peg(0, 0, 0);
        is("previous of none", x.previous(0), EMPTY);
        is("refusals", refusals(x), "1 0 0 0");
    }

    static void promise22InHandThen() {
        Pegrow x = pegged();
        x.previous(0);
        is("in hand", x.change(0, 4), 1);
    }

    static void promise22LostAtTheFront() {
        Pegrow x = pegged();
        x.previous(0);
        x.previous(0);
        allAre("lost", LOST, x.remove(0), x.change(0, 1));
    }

    static void promise22Old() {
        Pegrow x = aged();
        allAre("old", OLD, x.previous(0), x.previous(0));
        is("refusals", refusals(x), "0 0 0 2");
    }

    static void promise22ToAndFroIsTheSame() {
        Pegrow x = pegged();
        allAre("next and previous", 12, x.next(0), x.previous(0), x.next(0), x.previous(0));
        is("previous once more", x.previous(0), 1);
    }

    static void promise22NoPegOrFree() {
        Pegrow x = handed();
        for (int peg : NO_PEGS) {
            is("peg " + peg, x.previous(peg), BAD);
        }
        allAre("free", FREE, x.previous(1), x.previous(2), x.previous(3));
        is("refusals", refusals(x), NO_REFUSALS);
    }

    // ---- Promise 23: side

    private static void sides(Pegrow x, int behind, int ahead, int many) {
        is("behind it", x.side(0, 0), behind);
        is("ahead of it", x.side(0, 1), ahead);
        is("how many are ahead", x.side(0, 2), many);
        is("the same by previousIndex", x.side(0, 3), many);
    }

    static void promise23AtTheFront() {
        Pegrow x = with(1, 2, 3);
        x.peg(0, 0, 0);
        sides(x, 1, 0, 0);
    }

    static void promise23Inside() {
        Pegrow x = with(1, 2, 3);
        x.peg(0, 0, 2);
        sides(x, 1, 1, 2);
    }

    static void promise23AtTheEnd() {
        Pegrow x = with(1, 2, 3);
        x.peg(0, 0, 3);
        sides(x, 0, 1, 3);
    }

    static void promise23OfNone() {
        Pegrow x = new Pegrow();
        x.peg(0, 0, 0);
        sides(x, 0, 0, 0);
    }

    static void promise23OfAFullRow() {
        Pegrow x = full();
        x.peg(0, 0, 60);
        sides(x, 0, 1, 60);
        x.previous(0);
        sides(x, 1, 1, 59);
    }

    static void promise23BehindItsOwnAddAndRemove() {
        Pegrow x = new Pegrow();
        x.peg(0, 0, 0);
        x.add(0, 1);
        sides(x, 0, 1, 1);
        x.previous(0);
        x.remove(0);
        sides(x, 0, 0, 0);
    }

    static void promise23OldIsNotRefused() {
        Pegrow x = aged();
        allAre("old", OLD, x.side(0, 0), x.side(0, 1), x.side(0, 2), x.side(0, 3));
        is("refusals", refusals(x), NO_REFUSALS);
    }

    static void promise23LeavesTheHand() {
        Pegrow x = handed();
        for (int what = 0; what < 4; what++) {
            x.side(0, what);
        }
        is("in hand", x.remove(0), 12);
    }

    static void promise23NoWhat() {
        Pegrow x = handed();
        allAre("no such what", BAD, x.side(0, -1), x.side(0, 4), x.side(0, LOWEST), x.side(0, HIGHEST));
        is("no such what, and free", x.side(1, 4), BAD);
    }

    static void promise23NoPegOrFree() {
        Pegrow x = handed();
        for (int peg : NO_PEGS) {
            is("peg " + peg, x.side(peg, 0), BAD);
        }
        for (int what = 0; what < 4; what++) {
            is("free, what " + what, x.side(1, what), FREE);
        }
    }

    // ---- Promise 24: change

    static void promise24LaysInPlaceOfTheHand() {
        Pegrow x = handed();
        is("behind next", x.change(0, 4), 12);
        is("row", row(x, 0), "1 34 23");
        x.peg(0, 0, 1);
        x.previous(0);
        is("behind previous", x.change(0, 5), 1);
        is("row", row(x, 0), "45 34 23");
        is("made", x.count(0), 5);
    }

    static void promise24AtBothEndsOfTheRow() {
        Pegrow x = full();
        x.peg(0, 0, 60);
        x.previous(0);
        is("the last of 60", x.change(0, 4), 599);
        x.peg(0, 0, 0);
        x.next(0);
        is("the first of 60", x.change(0, 5), 0);
        is("front", x.at(0, 0), 615);
        is("end", x.at(0, 59), 604);
        is("size", x.size(0), 60);
    }

    static void promise24HasTheNewOneInHand() {
        Pegrow x = handed();
        x.change(0, 4);
        is("again", x.change(0, 5), 34);
        is("once more", x.change(0, 6), 45);
        is("row", row(x, 0), "1 56 23");
    }

    static void promise24StaysWhereItStands() {
        Pegrow x = handed();
        x.change(0, 4);
        is("behind next", x.side(0, 2), 2);
        is("next", x.next(0), 23);
        x.previous(0);
        x.change(0, 5);
        is("behind previous", x.side(0, 2), 2);
        is("previous", x.previous(0), 34);
    }

    static void promise24NothingInHand() {
        Pegrow x = pegged();
        allAre("nothing in hand", STATE, x.change(0, 4), x.remove(0), x.change(0, 4));
        is("refusals", refusals(x), "0 0 3 0");
        is("made", x.count(0), 3);
    }

    static void promise24Old() {
        Pegrow x = aged();
        is("old", x.change(0, 5), OLD);
        is("refusals", refusals(x), "0 0 0 1");
        is("row", row(x, 0), "1 12 23 34");
    }

    static void promise24Lost() {
        Pegrow x = handed();
        x.lay(0, 1, 4);
        is("lost", x.change(0, 5), LOST);
        is("refusals", refusals(x), NO_REFUSALS);
        is("row", row(x, 0), "1 34 23");
    }

    static void promise24NoPegOrNameOrFree() {
        Pegrow x = handed();
        for (int i = 0; i < 4; i++) {
            allAre("bad, " + i, BAD, x.change(NO_PEGS[i], 1), x.change(0, NO_NAMES[i]), x.change(1, NO_NAMES[i]));
        }
        is("free", x.change(1, 4), FREE);
        is("refusals", refusals(x), NO_REFUSALS);
        is("in hand", x.change(0, 0), 12);
        is("and by the highest name", x.change(0, 9), 30);
    }

    // ---- Promise 25: add

    static void promise25WhereItStands() {
        String[] rows = {"34 1 12 23", "1 34 12 23", "1 12 34 23", "1 12 23 34"};
        for (int place = 0; place < 4; place++) {
            Pegrow x = with(1, 2, 3);
            x.peg(0, 0, place);
            is("add", x.add(0, 4), 4);
            is("row", row(x, 0), rows[place]);
        }
    }

    static void promise25StandsBehindItThen() {
        Pegrow x = pegged();
        x.add(0, 4);
        is("ahead of it", x.side(0, 2), 2);
        is("the second", x.add(0, 5), 5);
        is("row", row(x, 0), "1 34 45 12 23");
        is("next", x.next(0), 12);
    }

    static void promise25IntoNone() {
        Pegrow x = new Pegrow();
        x.peg(0, 2, 0);
        is("the first", x.add(0, 4), 1);
        is("the second", x.add(0, 5), 2);
        is("row", row(x, 2), "4 15");
    }

    static void promise25WithSomethingInHandOrLost() {
        Pegrow x = handed();
        is("with something in hand", x.add(0, 4), 4);
        x.next(0);
        x.lay(0, 3, 5);
        is("with that lost", x.add(0, 6), 5);
        x.next(0);
        is("behind a miss", x.add(0, 7), 6);
        is("row", row(x, 0), "1 12 34 45 56 67");
    }

    static void promise25FullRow() {
        Pegrow x = full();
        for (int place : new int[] {0, 30, 60}) {
            x.peg(0, 0, place);
            is("the 61st", x.add(0, 1), FULL);
            is("where it stands", x.side(0, 2), place);
        }
        is("refusals", refusals(x), NO_REFUSALS);
        x.previous(0);
        is("it has in hand what it had", x.add(0, 1), FULL);
        x.remove(0);
        is("the 60th", x.add(0, 1), 60);
        is("and one more", x.add(0, 1), FULL);
    }

    static void promise25FullRowLeavesThePegsAsTheyAre() {
        Pegrow x = full();
        x.peg(0, 0, 30);
        x.peg(1, 0, 60);
        x.next(1);
        x.peg(2, 0, 30);
        allAre("full", FULL, x.add(0, 1), x.add(1, 1));
        allAre("old", 0, x.old(0), x.old(1), x.old(2));
        is("lost by a miss, as it was", x.change(1, 1), LOST);
        x.next(2);
        x.remove(2);
        x.put(0, 1, true, 0);
        allAre("old and full", FULL, x.add(0, 1), x.add(1, 1));
        allAre("old still", 1, x.old(0), x.old(1));
        is("refusals", refusals(x), "1 0 0 0");
    }

    static void promise25Old() {
        Pegrow x = aged();
        is("old", x.add(0, 5), OLD);
        is("refusals", refusals(x), "0 0 0 1");
        is("row", row(x, 0), "1 12 23 34");
    }

    static void promise25NoPegOrNameOrFree() {
        Pegrow x = handed();
        String before = state(x);
        for (int i = 0; i < 4; i++) {
            allAre("bad, " + i, BAD, x.add(NO_PEGS[i], 1), x.add(0, NO_NAMES[i]), x.add(1, NO_NAMES[i]));
        }
        is("free", x.add(1, 4), FREE);
        is("state", state(x), before);
        is("the lowest name", x.add(0, 0), 4);
        is("the highest name", x.add(0, 9), 5);
    }

    // ---- Promise 26: remove

    static void promise26StandsWhereThatStood() {
        Pegrow x = handed();
        is("behind next", x.remove(0), 12);
        is("where it stands", x.side(0, 2), 1);
        is("row", row(x, 0), "1 23");
        is("previous", x.previous(0), 1);
        is("behind previous", x.remove(0), 1);
        is("where it stands", x.side(0, 2), 0);
        is("row", row(x, 0), "23");
        is("next", x.next(0), 23);
    }

    static void promise26AtBothEndsOfTheRow() {
        Pegrow x = full();
        x.peg(0, 0, 60);
        x.previous(0);
        is("the last of 60", x.remove(0), 599);
        is("at the end", x.next(0), EMPTY);
        x.peg(0, 0, 0);
        x.next(0);
        is("the first of 59", x.remove(0), 0);
        is("at the front", x.previous(0), EMPTY);
        is("size", x.size(0), 58);
        is("front", x.at(0, 0), 11);
        is("end", x.at(0, 57), 588);
    }

    static void promise26TheOnlyThing() {
        Pegrow x = with(6);
        x.peg(0, 0, 0);
        x.next(0);
        is("remove", x.remove(0), 6);
        is("size", x.size(0), 0);
        allAre("none to go over", EMPTY, x.next(0), x.previous(0));
    }

    static void promise26NothingInHand() {
        Pegrow x = pegged();
        is("as it is set", x.remove(0), STATE);
        x.next(0);
        x.remove(0);
        is("twice", x.remove(0), STATE);
        is("refusals", refusals(x), "0 0 2 0");
        is("row", row(x, 0), "1 23");
    }

    static void promise26Old() {
        Pegrow x = aged();
        is("old", x.remove(0), OLD);
        is("refusals", refusals(x), "0 0 0 1");
        is("row", row(x, 0), "1 12 23 34");
    }

    static void promise26Lost() {
        Pegrow x = handed();
        x.lay(0, 1, 4);
        is("lost", x.remove(0), LOST);
        is("refusals", refusals(x), NO_REFUSALS);
        is("row", row(x, 0), "1 34 23");
    }

    static void promise26NoPegOrFree() {
        Pegrow x = handed();
        String before = state(x);
        for (int peg : NO_PEGS) {
            is("peg " + peg, x.remove(peg), BAD);
        }
        allAre("free", FREE, x.remove(1), x.remove(2), x.remove(3));
        is("state", state(x), before);
        is("refusals", refusals(x), NO_REFUSALS);
    }

    // ---- Promise 27: old

    static void promise27YoungAndOld() {
        Pegrow x = pegged();
        is("young", x.old(0), 0);
        x.put(0, 4, true, 0);
        allAre("old", 1, x.old(0), x.old(0));
        is("refusals", refusals(x), NO_REFUSALS);
    }

    static void promise27EachOfThePegs() {
        Pegrow x = with(1, 2);
        for (int peg = 0; peg < 4; peg++) {
            x.peg(peg, 0, 1);
        }
        x.add(2, 3);
        allAre("the others", 1, x.old(0), x.old(1), x.old(3));
        is("the one that put", x.old(2), 0);
    }

    static void promise27NoPegOrFree() {
        Pegrow x = handed();
        for (int peg : NO_PEGS) {
            is("peg " + peg, x.old(peg), BAD);
        }
        allAre("free", FREE, x.old(1), x.old(2), x.old(3));
    }

    // ---- Promise 28: count

    static void promise28ThingsThatWereMade() {
        Pegrow x = new Pegrow();
        x.put(0, 1, true, 0);
        is("put", x.count(0), 1);
        x.insert(1, 0, 1);
        is("insert", x.count(0), 2);
        x.lay(0, 0, 1);
        is("lay", x.count(0), 3);
        x.peg(0, 0, 0);
        x.add(0, 1);
        is("add", x.count(0), 4);
        x.next(0);
        x.change(0, 1);
        is("change", x.count(0), 5);
        x.clear(0);
        x.clear(1);
        is("those taken are counted still", x.count(0), 5);
    }

    static void promise28RefusalsOfEachKind() {
        Pegrow x = pegged();
        x.peg(1, 1, 0);
        x.next(1);
        for (int i = 0; i < 2; i++) {
            x.at(0, 9);
        }
        for (int i = 0; i < 3; i++) {
            x.change(0, 1);
        }
        x.drop(0, 0);
        for (int i = 0; i < 4; i++) {
            x.next(0);
        }
        is("refusals", refusals(x), "1 2 3 4");
    }

    static void promise28HundredsOfRefusals() {
        Pegrow x = new Pegrow();
        Pegrow y = pegged();
        Pegrow z = aged();
        for (int i = 0; i < 250; i++) {
            x.end(0, true, 0);
            x.at(0, 0);
            y.change(0, 1);
            y.remove(0);
            z.next(0);
            z.remove(0);
        }
        is("of places and ends", refusals(x), "250 250 0 0");
        is("with nothing in hand", refusals(y), "0 0 500 0");
        is("of an old peg", refusals(z), "0 0 0 500");
        x = new Pegrow();
        x.peg(0, 0, 0);
        for (int i = 0; i < 500; i++) {
            x.next(0);
        }
        is("of one that stands at the end", refusals(x), "500 0 0 0");
        x = new Pegrow();
        for (int i = 0; i < 500; i++) {
            x.drop(0, 0);
        }
        is("of places alone", refusals(x), "0 500 0 0");
    }

    static void promise28PegsThatStand() {
        Pegrow x = with(1);
        for (int peg = 0; peg < 4; peg++) {
            is("standing", x.count(5), peg);
            x.peg(peg, peg % 3, 0);
        }
        is("all stand", x.count(5), 4);
        x.peg(1, 0, 0);
        is("one was set again", x.count(5), 4);
        x.copy(0, 1);
        is("three left", x.count(5), 1);
    }

    static void promise28PegsThatAreOld() {
        Pegrow x = with(1);
        for (int peg = 0; peg < 4; peg++) {
            x.peg(peg, 0, 0);
        }
        is("none", x.count(6), 0);
        x.add(3, 1);
        is("three", x.count(6), 3);
        x.put(0, 1, true, 0);
        is("four", x.count(6), 4);
        x.peg(1, 0, 0);
        is("one set again", x.count(6), 3);
        is("the old ones stand", x.count(5), 4);
        x.copy(0, 1);
        is("none stands", x.count(6), 0);
    }

    static void promise28NoWhat() {
        Pegrow x = aged();
        allAre("no such what", BAD, x.count(-1), x.count(7), x.count(LOWEST), x.count(HIGHEST));
        is("refusals", refusals(x), NO_REFUSALS);
    }
}
