/** Promises 12 to 19: several at once. */
public final class SeveralTest extends Sentences {
    public static void main(String[] args) {
        runAll(SeveralTest.class);
    }

    // Row 0 with 1, 12 and 23, row 1 with 34 and 45; a peg in each, and none in row 2.
    private static Pegrow both() {
        Pegrow x = pegged();
        fill(x, 1, 4, 5);
        x.peg(1, 1, 1);
        return x;
    }

    // Row 0 with so many things, row 1 with so many, peg 0 in row 0.
    private static Pegrow sized(int size, int otherSize) {
        Pegrow x = new Pegrow();
        fillTo(x, 0, size);
        fillTo(x, 1, otherSize);
        x.peg(0, 0, 0);
        return x;
    }

    private static String things(Pegrow x, int row, int from, int to) {
        StringBuilder text = new StringBuilder();
        for (int place = from; place < to; place++) {
            text.append(x.at(row, place)).append(' ');
        }
        return text.toString().trim();
    }

    // ---- Promise 12: all

    static void promise12AheadOfAPlace() {
        String[] rows = {"34 45 1 12 23", "1 34 45 12 23", "1 12 34 45 23", "1 12 23 34 45"};
        for (int place = 0; place < 4; place++) {
            Pegrow x = both();
            is("all", x.all(0, place, 1), 5);
            is("row", row(x, 0), rows[place]);
        }
    }

    static void promise12AtTheEndByPlaceMinus1() {
        Pegrow x = both();
        is("all", x.all(0, -1, 1), 5);
        is("row", row(x, 0), "1 12 23 34 45");
        is("refusals", refusals(x), NO_REFUSALS);
    }

    static void promise12IntoNone() {
        Pegrow x = both();
        is("at the end of none", x.all(2, -1, 0), 3);
        is("row", row(x, 2), "1 12 23");
        x = both();
        is("ahead of place 0 of none", x.all(2, 0, 0), 3);
        is("row", row(x, 2), "1 12 23");
        x = both();
        is("ahead of place 1 of none", x.all(2, 1, 0), PLACE);
    }

    static void promise12TheOtherRowKeepsThem() {
        Pegrow x = both();
        x.all(0, 1, 1);
        is("the other row", row(x, 1), "34 45");
        is("its peg is not old", x.old(1), 0);
        is("its peg goes on", x.next(1), 45);
        x.all(1, -1, 0);
        is("the row itself", row(x, 0), "1 34 45 12 23");
    }

    static void promise12NoPlace() {
        Pegrow x = both();
        String before = state(x);
        is("behind the end", x.all(0, 4, 1), PLACE);
        is("below -1", x.all(0, -2, 1), PLACE);
        is("the highest", x.all(0, HIGHEST, 1), PLACE);
        is("the lowest", x.all(0, LOWEST, 1), PLACE);
        is("refusals", refusals(x), "0 4 0 0");
        is("state", state(x), before);
    }

    static void promise12OtherWithoutThings() {
        Pegrow x = both();
        String before = state(x);
        for (int place : new int[] {0, 3, -1, 4, -2, LOWEST, HIGHEST}) {
            is("all of none, place " + place, x.all(0, place, 2), 3);
        }
        is("state", state(x), before);
        is("refusals", refusals(x), NO_REFUSALS);
    }

    static void promise12BothWithoutThings() {
        Pegrow x = new Pegrow();
        x.peg(0, 0, 0);
        allAre("none of none", 0, x.all(0, 0, 1), x.all(0, -1, 1), x.all(0, 5, 1));
        is("old", x.old(0), 0);
        is("refusals", refusals(x), NO_REFUSALS);
    }

    static void promise12OtherWithoutThingsIntoAFullRow() {
        Pegrow x = sized(60, 0);
        allAre("none into a full one", 60, x.all(0, 0, 1), x.all(0, -1, 1), x.all(0, 61, 1));
        is("old", x.old(0), 0);
    }

    static void promise12OneAndTheSameRow() {
        Pegrow x = both();
        String before = state(x);
        allAre("the same row", BAD, x.all(0, 0, 0), x.all(1, -1, 1), x.all(0, 9, 0));
        allAre("the same row without things", BAD, x.all(2, 0, 2), x.all(2, 9, 2));
        is("state", state(x), before);
        is("refusals", refusals(x), NO_REFUSALS);
    }

    static void promise12NoRow() {
        Pegrow x = both();
        String before = state(x);
        for (int row : NO_ROWS) {
            allAre("row " + row, BAD, x.all(row, 0, 1), x.all(0, 0, row), x.all(row, 0, 2), x.all(row, 0, row));
        }
        is("state", state(x), before);
    }

    static void promise12MoreThan60() {
        Pegrow x = sized(30, 31);
        String before = state(x);
        allAre("30 and 31", FULL, x.all(0, 0, 1), x.all(0, -1, 1), x.all(1, 0, 0));
        is("state", state(x), before);
        x = sized(60, 1);
        allAre("60 and 1", FULL, x.all(0, 60, 1), x.all(1, 0, 0));
        is("refusals", refusals(x), NO_REFUSALS);
    }

    static void promise12Just60() {
        Pegrow x = sized(30, 30);
        is("30 and 30", x.all(0, 30, 1), 60);
        is("the first put", x.at(0, 30), 300);
        is("the last put", x.at(0, 59), 599);
        x = sized(59, 1);
        is("59 and 1", x.all(0, -1, 1), 60);
        x = sized(0, 60);
        is("0 and 60", x.all(0, 0, 1), 60);
        is("sums", x.sum(0), x.sum(1));
    }

    // ---- Promise 13: clear

    static void promise13TellsHowManyItHad() {
        Pegrow x = both();
        is("clear", x.clear(0), 3);
        is("size", x.size(0), 0);
        is("size of the other row", x.size(1), 2);
        is("peg in the other row", x.old(1), 0);
    }

    static void promise13OneAndSixty() {
        Pegrow x = sized(60, 1);
        is("a full row", x.clear(0), 60);
        is("a row of one", x.clear(1), 1);
        allAre("none is left", 0, x.size(0), x.size(1));
    }

    static void promise13RowWithoutThings() {
        Pegrow x = sized(0, 0);
        String before = state(x);
        is("clear of none", x.clear(0), 0);
        is("state", state(x), before);
        is("old", x.old(0), 0);
        is("refusals", refusals(x), NO_REFUSALS);
    }

    static void promise13TheRowCanBeFilledAgain() {
        Pegrow x = full();
        x.clear(0);
        fillTo(x, 0, 60);
        is("the first", x.at(0, 0), 600);
        is("the last", x.at(0, 59), 1199);
        is("the 61st", x.put(0, 1, true, 0), FULL);
    }

    static void promise13NoRow() {
        Pegrow x = both();
        String before = state(x);
        for (int row : NO_ROWS) {
            is("clear of row " + row, x.clear(row), BAD);
        }
        is("state", state(x), before);
    }

    // ---- Promise 14: copy

    static void promise14TheThingsOfTheOtherInTheirOrder() {
        Pegrow x = both();
        is("longer by shorter", x.copy(0, 1), 2);
        is("row", row(x, 0), "34 45");
        is("the other row", row(x, 1), "34 45");
        x = both();
        is("shorter by longer", x.copy(1, 0), 3);
        is("row", row(x, 1), "1 12 23");
        is("the other row", row(x, 0), "1 12 23");
    }

    static void promise14OtherWithoutThings() {
        Pegrow x = both();
        is("copy of none", x.copy(0, 2), 0);
        is("size", x.size(0), 0);
        is("its peg", x.old(0), FREE);
        x.peg(0, 0, 0);
        is("none of none", x.copy(0, 2), 0);
        is("its peg", x.old(0), FREE);
    }

    static void promise14IntoNone() {
        Pegrow x = both();
        is("copy", x.copy(2, 0), 3);
        is("row", row(x, 2), "1 12 23");
    }

    static void promise14FullRows() {
        Pegrow x = sized(60, 60);
        is("full by full", x.copy(0, 1), 60);
        is("sums", x.sum(0), x.sum(1));
        is("the 61st", x.put(0, 1, true, 0), FULL);
        x = sized(60, 1);
        is("full by one", x.copy(0, 1), 1);
        is("behind its last place", x.at(0, 1), PLACE);
    }

    static void promise14ANewListOfItsOwn() {
        Pegrow x = both();
        x.copy(0, 1);
        x.lay(0, 0, 6);
        x.put(0, 7, true, 0);
        is("the other row", row(x, 1), "34 45");
        is("peg in the other row", x.old(1), 0);
        x.clear(1);
        is("row", row(x, 0), "56 45 67");
    }

    static void promise14PegsOfTheRowStandInNone() {
        Pegrow x = both();
        x.peg(2, 0, 0);
        x.next(2);
        x.put(0, 6, true, 0);
        x.peg(3, 0, 4);
        x.previous(3);
        x.copy(0, 1);
        allAre("old ones and a young one", FREE, x.next(0), x.next(2), x.previous(3), x.old(0), x.old(2), x.old(3));
        is("standing", x.count(5), 1);
        is("old", x.count(6), 0);
        is("refusals", refusals(x), NO_REFUSALS);
    }

    static void promise14PegsOfTheOtherRowStandAsTheyStood() {
        Pegrow x = both();
        x.next(1);
        x.copy(0, 1);
        is("old", x.old(1), 0);
        is("in hand", x.remove(1), 45);
        is("row", row(x, 0), "34 45");
    }

    static void promise14OneAndTheSameRow() {
        Pegrow x = both();
        String before = state(x);
        allAre("the same row", BAD, x.copy(0, 0), x.copy(1, 1), x.copy(2, 2));
        is("state", state(x), before);
    }

    static void promise14NoRow() {
        Pegrow x = both();
        String before = state(x);
        for (int row : NO_ROWS) {
            allAre("row " + row, BAD, x.copy(row, 1), x.copy(0, row), x.copy(row, row));
        }
        is("state", state(x), before);
    }

    // ---- Promise 15: turn

    static void promise15OddAndEven() {
        Pegrow x = with(1, 2, 3);
        is("three", x.turn(0), 3);
        is("row", row(x, 0), "23 12 1");
        x.put(0, 4, true, 0);
        is("four", x.turn(0), 4);
        is("row", row(x, 0), "34 1 12 23");
    }

    static void promise15NoneOneAndTwo() {
        Pegrow x = new Pegrow();
        is("none", x.turn(0), 0);
        is("size", x.size(0), 0);
        x.put(0, 1, true, 0);
        is("one", x.turn(0), 1);
        is("row", row(x, 0), "1");
        x.put(0, 2, true, 0);
        is("two", x.turn(0), 2);
        is("row", row(x, 0), "12 1");
    }

    static void promise15AFullRow() {
        Pegrow x = full();
        is("sixty", x.turn(0), 60);
        for (int place = 0; place < 60; place++) {
            is("at " + place, x.at(0, 59 - place), 10 * place + place % 10);
        }
    }

    static void promise15NoneIsPutOrTaken() {
        Pegrow x = both();
        x.peg(2, 0, 0);
        x.peg(3, 0, 3);
        x.turn(0);
        allAre("old", 0, x.old(0), x.old(2), x.old(3), x.count(6));
        is("made", x.count(0), 5);
        is("a peg goes on where it stands", x.next(0), 12);
        is("at the front", x.next(2), 23);
        is("at the end", x.previous(3), 1);
        is("the other row", row(x, 1), "34 45");
    }

    static void promise15NoRow() {
        Pegrow x = both();
        String before = state(x);
        for (int row : NO_ROWS) {
            is("turn of row " + row, x.turn(row), BAD);
        }
        is("state", state(x), before);
    }

    // ---- Promise 16: weave

    private static void weaves(int size, int otherSize, String woven) {
        Pegrow x = sized(size, otherSize);
        String other = row(x, 1);
        is(size + " and " + otherSize, x.weave(0, 1), size + otherSize);
        is("row", row(x, 0), woven);
        is("the other row keeps them", row(x, 1), other);
    }

    static void promise16AsManyAsTheRowHas() {
        weaves(1, 1, "0 10");
        weaves(2, 2, "0 20 11 31");
        weaves(3, 3, "0 30 11 41 22 52");
    }

    static void promise16FewerThanTheRowHas() {
        weaves(2, 1, "0 20 11");
        weaves(3, 1, "0 30 11 22");
        weaves(4, 2, "0 40 11 51 22 33");
        weaves(3, 2, "0 30 11 41 22");
    }

    static void promise16MoreThanTheRowHas() {
        weaves(1, 2, "0 10 21");
        weaves(1, 3, "0 10 21 32");
        weaves(2, 4, "0 20 11 31 42 53");
    }

    static void promise16IntoNone() {
        weaves(0, 1, "0");
        weaves(0, 3, "0 11 22");
    }

    static void promise16OtherWithoutThings() {
        Pegrow x = both();
        String before = state(x);
        is("weave of none", x.weave(0, 2), 3);
        is("state", state(x), before);
        x = sized(0, 0);
        is("none of none", x.weave(0, 1), 0);
        is("old", x.old(0), 0);
        x = sized(60, 0);
        is("none into a full one", x.weave(0, 1), 60);
        is("old", x.old(0), 0);
    }

    static void promise16PegsOfTheOtherRowStandAsTheyStood() {
        Pegrow x = both();
        x.next(1);
        x.weave(0, 1);
        is("old", x.old(1), 0);
        is("in hand", x.remove(1), 45);
    }

    static void promise16OneAndTheSameRow() {
        Pegrow x = both();
        String before = state(x);
        allAre("the same row", BAD, x.weave(0, 0), x.weave(1, 1), x.weave(2, 2));
        is("state", state(x), before);
    }

    static void promise16NoRow() {
        Pegrow x = both();
        String before = state(x);
        for (int row : NO_ROWS) {
            allAre("row " + row, BAD, x.weave(row, 1), x.weave(0, row), x.weave(row, 2), x.weave(row, row));
        }
        is("state", state(x), before);
    }

    static void promise16MoreThan60() {
        Pegrow x = sized(30, 31);
        String before = state(x);
        allAre("30 and 31", FULL, x.weave(0, 1), x.weave(1, 0));
        is("state", state(x), before);
        x = sized(60, 1);
        allAre("60 and 1", FULL, x.weave(0, 1), x.weave(1, 0));
        is("refusals", refusals(x), NO_REFUSALS);
    }

    static void promise16Just60() {
        Pegrow x = sized(30, 30);
        is("30 and 30", x.weave(0, 1), 60);
        is("its front", things(x, 0, 0, 4), "0 300 11 311");
        is("its end", things(x, 0, 56, 60), "288 588 299 599");
        x = sized(59, 1);
        is("59 and 1", x.weave(0, 1), 60);
        is("its front", things(x, 0, 0, 3), "0 590 11");
        is("its end", things(x, 0, 58, 60), "577 588");
        x = sized(1, 59);
        is("1 and 59", x.weave(0, 1), 60);
        is("its front", things(x, 0, 0, 3), "0 10 21");
        is("its end", things(x, 0, 58, 60), "587 598");
        x = sized(0, 60);
        is("0 and 60", x.weave(0, 1), 60);
        is("sums", x.sum(0), x.sum(1));
    }

    // ---- Promise 17: prune

    static void promise17AllButTheFirstOfEachName() {
        Pegrow x = with(9, 0, 9, 9, 1, 0, 1, 5);
        is("prune", x.prune(0), 4);
        is("row", row(x, 0), "9 10 41 75");
    }

    static void promise17OneNameAlone() {
        Pegrow x = with(3, 3, 3, 3);
        is("prune", x.prune(0), 3);
        is("row", row(x, 0), "3");
    }

    static void promise17AFullRow() {
        Pegrow x = full();
        is("prune", x.prune(0), 50);
        is("row", row(x, 0), "0 11 22 33 44 55 66 77 88 99");
    }

    static void promise17NothingToTake() {
        Pegrow x = with(0, 1, 2, 3, 4, 5, 6, 7, 8, 9);
        x.peg(0, 0, 5);
        x.peg(1, 1, 0);
        String before = state(x);
        is("ten names", x.prune(0), 0);
        is("none", x.prune(1), 0);
        is("state", state(x), before);
        is("refusals", refusals(x), NO_REFUSALS);
    }

    static void promise17OneThingThatStandsTwice() {
        Pegrow x = with(1, 2);
        x.copy(1, 0);
        x.all(0, 0, 1);
        is("prune", x.prune(0), 2);
        is("row", row(x, 0), "1 12");
        is("the other row", row(x, 1), "1 12");
    }

    static void promise17NoRow() {
        Pegrow x = with(1, 1);
        x.peg(0, 0, 0);
        String before = state(x);
        for (int row : NO_ROWS) {
            is("prune of row " + row, x.prune(row), BAD);
        }
        is("state", state(x), before);
    }

    // ---- Promise 18: size

    static void promise18From0To60() {
        Pegrow x = new Pegrow();
        for (int many = 0; many < 60; many++) {
            is("size", x.size(2), many);
            x.put(2, 1, true, 0);
        }
        is("size of a full row", x.size(2), 60);
        x.put(2, 1, true, 0);
        is("behind a call that was FULL", x.size(2), 60);
        allAre("of the other rows", 0, x.size(0), x.size(1));
    }

    static void promise18NoRow() {
        Pegrow x = with(1);
        for (int row : NO_ROWS) {
            is("size of row " + row, x.size(row), BAD);
        }
    }

    // ---- Promise 19: sum

    static void promise19OfNoneIs7() {
        Pegrow x = new Pegrow();
        allAre("sum", 7, x.sum(0), x.sum(1), x.sum(2));
    }

    static void promise19InOrder() {
        Pegrow x = with(4, 7);
        is("sum", x.sum(0), (7 * 31 + 4) * 31 + 17);
        x.turn(0);
        is("turned", x.sum(0), (7 * 31 + 17) * 31 + 4);
    }

    // ((7 * 31 + 823) * 31 + 18) * 31 + 5 is just 1000003.
    static void promise19Modulo1000003() {
        int[] names = {4, 5, 6};
        int[] sums = {1000002, 0, 1};
        for (int i = 0; i < names.length; i++) {
            Pegrow x = with(names[i], 8, 0);
            while (x.count(0) < 82) {
                x.lay(0, 2, 0);
            }
            x.lay(0, 2, 3);
            x.turn(0);
            is("row", row(x, 0), "823 18 " + names[i]);
            is("sum", x.sum(0), sums[i]);
        }
    }

    static void promise19AFullRow() {
        Pegrow x = new Pegrow();
        for (int i = 0; i < 150; i++) {
            x.put(1, 9, true, 0);
            x.take(1, false, 3);
        }
        fillTo(x, 0, 60);
        long number = 7;
        for (int place = 0; place < 60; place++) {
            number = (number * 31 + x.at(0, place)) % 1000003;
        }
        is("sum", x.sum(0), number);
    }

    static void promise19NoRow() {
        Pegrow x = with(1);
        for (int row : NO_ROWS) {
            is("sum of row " + row, x.sum(row), BAD);
        }
    }
}
