/** Promises 1 to 4: a new object, and both ends of a row. */
public final class EndsTest extends Sentences {
    public static void main(String[] args) {
        runAll(EndsTest.class);
    }

    // ---- Promise 1: a new object

    static void promise1RowsWithoutThings() {
        Pegrow x = new Pegrow();
        for (int row = 0; row < 3; row++) {
            is("size", x.size(row), 0);
            is("sum", x.sum(row), 7);
            is("end", x.end(row, false, 1), EMPTY);
        }
    }

    static void promise1PegsThatStandInNone() {
        Pegrow x = new Pegrow();
        for (int peg = 0; peg < 4; peg++) {
            allAre("peg " + peg, FREE, x.next(peg), x.previous(peg), x.side(peg, 0), x.change(peg, 0), x.add(peg, 0),
                    x.remove(peg), x.old(peg));
        }
    }

    static void promise1NothingCounted() {
        Pegrow x = new Pegrow();
        for (int what = 0; what < 7; what++) {
            is("count " + what, x.count(what), 0);
        }
    }

    static void promise1EachObjectIsItsOwn() {
        Pegrow x = new Pegrow();
        Pegrow y = with(1, 2);
        y.peg(0, 0, 0);
        y.at(0, 2);
        allAre("of the other object", 0, x.size(0), x.count(0), x.count(2), x.count(5));
        is("old of the other object", x.old(0), FREE);
    }

    // ---- Promise 2: put

    static void promise2ToTheFrontOrToTheEnd() {
        for (int way = 0; way < 3; way++) {
            Pegrow x = new Pegrow();
            x.put(0, 0, true, way);
            x.put(0, 9, false, way);
            x.put(0, 5, true, way);
            is("row, way " + way, row(x, 0), "19 0 25");
        }
    }

    static void promise2TellsHowManyTheRowHas() {
        for (int way = 0; way < 3; way++) {
            Pegrow x = new Pegrow();
            is("the first, to the front", x.put(1, 0, false, way), 1);
            is("the second, to the end", x.put(1, 0, true, way), 2);
            is("the third, to the front", x.put(1, 0, false, way), 3);
            is("the first of another row", x.put(2, 0, true, way), 1);
        }
    }

    static void promise2TheFirstOfARowIsBothItsEnds() {
        for (int way = 0; way < 3; way++) {
            Pegrow x = new Pegrow();
            x.put(0, 4, false, way);
            allAre("put to the front", 4, x.end(0, false, 0), x.end(0, true, 0));
            x.put(1, 4, true, way);
            allAre("put to the end", 14, x.end(1, false, 0), x.end(1, true, 0));
        }
    }

    static void promise2KeepsAllElse() {
        Pegrow x = full();
        x.take(0, true, 0);
        String before = row(x, 0);
        x.put(0, 7, false, 0);
        is("row", row(x, 0), "607 " + before);
    }

    static void promise2NoRow() {
        Pegrow x = pegged();
        String before = state(x);
        for (int row : NO_ROWS) {
            allAre("put into row " + row, BAD, x.put(row, 1, true, 0), x.put(row, 1, false, 2));
        }
        is("state", state(x), before);
    }

    static void promise2NoName() {
        Pegrow x = pegged();
        String before = state(x);
        for (int name : NO_NAMES) {
            allAre("put name " + name, BAD, x.put(0, name, true, 0), x.put(0, name, false, 1));
        }
        is("state", state(x), before);
        is("put the lowest name", x.put(0, 0, true, 0), 4);
        is("put the highest name", x.put(0, 9, true, 0), 5);
    }

    static void promise2NoWay() {
        Pegrow x = pegged();
        String before = state(x);
        for (int way : new int[] {-1, 3, LOWEST, HIGHEST}) {
            allAre("put, way " + way, BAD, x.put(0, 1, true, way), x.put(0, 1, false, way));
        }
        is("state", state(x), before);
    }

    static void promise2FullRow() {
        for (int way = 0; way < 3; way++) {
            Pegrow x = full();
            String before = state(x);
            allAre("the 61st, way " + way, FULL, x.put(0, 1, true, way), x.put(0, 1, false, way));
            is("state", state(x), before);
            is("refusals", refusals(x), NO_REFUSALS);
            x.take(0, true, 0);
            is("the 60th to the end, way " + way, x.put(0, 1, true, way), 60);
            x.take(0, true, 0);
            is("the 60th to the front, way " + way, x.put(0, 1, false, way), 60);
        }
    }

    // ---- Promise 3: end

    static void promise3FrontAndEnd() {
        Pegrow x = with(1, 2, 3);
        allAre("front", 1, x.end(0, false, 0), x.end(0, false, 1), x.end(0, false, 2), x.end(0, false, 3));
        allAre("end", 23, x.end(0, true, 0), x.end(0, true, 1));
    }

    static void promise3OfOneThing() {
        Pegrow x = with(6);
        allAre("front", 6, x.end(0, false, 0), x.end(0, false, 1), x.end(0, false, 2), x.end(0, false, 3));
        allAre("end", 6, x.end(0, true, 0), x.end(0, true, 1));
    }

    static void promise3OfAFullRow() {
        Pegrow x = full();
        is("front", x.end(0, false, 0), 0);
        is("end", x.end(0, true, 0), 599);
    }

    static void promise3TheThingStays() {
        Pegrow x = pegged();
        String before = state(x);
        for (int way = 0; way < 4; way++) {
            x.end(0, false, way);
            x.end(0, true, way);
        }
        is("state", state(x), before);
    }

    static void promise3NoRow() {
        Pegrow x = with(1);
        for (int row : NO_ROWS) {
            allAre("end of row " + row, BAD, x.end(row, false, 0), x.end(row, true, 1), x.end(row, false, 3));
        }
    }

    static void promise3NoWay() {
        Pegrow x = with(1);
        for (int way : new int[] {-1, 4, LOWEST, HIGHEST}) {
            allAre("end, way " + way, BAD, x.end(0, false, way), x.end(0, true, way));
        }
    }

    static void promise3LastByWaysOfTheFrontAlone() {
        Pegrow x = with(1);
        allAre("last", BAD, x.end(0, true, 2), x.end(0, true, 3));
        allAre("last of none", BAD, x.end(1, true, 2), x.end(1, true, 3));
        is("refusals", refusals(x), NO_REFUSALS);
    }

    static void promise3EmptyIsRefusedByWays0And2() {
        Pegrow x = new Pegrow();
        is("front, way 0", x.end(0, false, 0), EMPTY);
        is("refusals", x.count(1), 1);
        is("end, way 0", x.end(0, true, 0), EMPTY);
        is("refusals", x.count(1), 2);
        is("front, way 2", x.end(0, false, 2), EMPTY);
        is("refusals", refusals(x), "3 0 0 0");
    }

    static void promise3EmptyIsNotRefusedByWays1And3() {
        Pegrow x = new Pegrow();
        allAre("ways 1 and 3", EMPTY, x.end(0, false, 1), x.end(0, true, 1), x.end(0, false, 3));
        is("refusals", refusals(x), NO_REFUSALS);
    }

    // ---- Promise 4: take

    static void promise4FromTheFront() {
        for (int way = 0; way < 5; way++) {
            Pegrow x = with(1, 2, 3);
            is("front, way " + way, x.take(0, false, way), 1);
            is("row", row(x, 0), "12 23");
        }
    }

    static void promise4FromTheEnd() {
        for (int way = 0; way < 2; way++) {
            Pegrow x = with(1, 2, 3);
            is("end, way " + way, x.take(0, true, way), 23);
            is("row", row(x, 0), "1 12");
        }
    }

    static void promise4TheOnlyThing() {
        for (int way = 0; way < 5; way++) {
            Pegrow x = with(6);
            is("the only thing, way " + way, x.take(0, way == 1, way), 6);
            is("size", x.size(0), 0);
            is("put behind it", x.put(0, 7, true, 0), 1);
            is("front", x.end(0, false, 0), 17);
        }
    }

    static void promise4OfAFullRow() {
        Pegrow x = full();
        is("front", x.take(0, false, 0), 0);
        is("end", x.take(0, true, 0), 599);
        is("size", x.size(0), 58);
        is("the first one now", x.at(0, 0), 11);
        is("the last one now", x.at(0, 57), 588);
    }

    static void promise4NoRow() {
        Pegrow x = pegged();
        String before = state(x);
        for (int row : NO_ROWS) {
            allAre("take from row " + row, BAD, x.take(row, false, 0), x.take(row, true, 1), x.take(row, false, 4));
        }
        is("state", state(x), before);
    }

    static void promise4NoWay() {
        Pegrow x = pegged();
        String before = state(x);
        for (int way : new int[] {-1, 5, LOWEST, HIGHEST}) {
            allAre("take, way " + way, BAD, x.take(0, false, way), x.take(0, true, way));
        }
        is("state", state(x), before);
    }

    static void promise4LastByWaysOfTheFrontAlone() {
        Pegrow x = pegged();
        String before = state(x);
        allAre("last", BAD, x.take(0, true, 2), x.take(0, true, 3), x.take(0, true, 4));
        allAre("last of none", BAD, x.take(1, true, 2), x.take(1, true, 3), x.take(1, true, 4));
        is("state", state(x), before);
        is("refusals", refusals(x), NO_REFUSALS);
    }

    static void promise4EmptyIsRefusedByWays0And2And4() {
        Pegrow x = new Pegrow();
        is("front, way 0", x.take(0, false, 0), EMPTY);
        is("refusals", x.count(1), 1);
        is("end, way 0", x.take(0, true, 0), EMPTY);
        is("refusals", x.count(1), 2);
        is("front, way 2", x.take(0, false, 2), EMPTY);
        is("refusals", x.count(1), 3);
        is("front, way 4", x.take(0, false, 4), EMPTY);
        is("refusals", refusals(x), "4 0 0 0");
    }

    static void promise4EmptyIsNotRefusedByWays1And3() {
        Pegrow x = new Pegrow();
        allAre("ways 1 and 3", EMPTY, x.take(0, false, 1), x.take(0, true, 1), x.take(0, false, 3));
        is("refusals", refusals(x), NO_REFUSALS);
    }

    static void promise4EmptyTakesNothing() {
        Pegrow x = new Pegrow();
        x.peg(0, 0, 0);
        String before = state(x);
        for (int way = 0; way < 5; way++) {
            x.take(0, false, way);
        }
        is("state", state(x), before);
    }
}
