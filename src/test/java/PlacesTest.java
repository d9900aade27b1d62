/** Promises 5 to 8: by place. */
public final class PlacesTest extends Sentences {
    private static final int[] FAR = {-2, 1000, LOWEST, HIGHEST};

    public static void main(String[] args) {
        runAll(PlacesTest.class);
    }

    // The row of full(), but for some places, as row() tells it.
    private static String fullBut(int place, String there) {
        String[] things = row(full(), 0).split(" ");
        things[place] = there;
        return String.join(" ", things).replaceAll(" +", " ").trim();
    }

    // ---- Promise 5: at

    static void promise5EachPlace() {
        Pegrow x = full();
        for (int place = 0; place < 60; place++) {
            is("at " + place, x.at(0, place), 10 * place + place % 10);
        }
    }

    static void promise5JustOutside() {
        Pegrow x = with(1, 2, 3);
        is("the last place", x.at(0, 2), 23);
        is("behind the last place", x.at(0, 3), PLACE);
        is("ahead of the first place", x.at(0, -1), PLACE);
        is("refusals", refusals(x), "0 2 0 0");
    }

    static void promise5FarOutside() {
        Pegrow x = full();
        is("behind the last place of 60", x.at(0, 60), PLACE);
        for (int place : FAR) {
            is("at " + place, x.at(0, place), PLACE);
        }
        is("refusals", refusals(x), "0 5 0 0");
    }

    static void promise5EmptyRow() {
        Pegrow x = new Pegrow();
        allAre("of none", PLACE, x.at(0, 0), x.at(0, -1), x.at(0, 1));
        is("refusals", refusals(x), "0 3 0 0");
    }

    static void promise5WhatWasTakenIsNotThere() {
        Pegrow x = with(1, 2);
        x.take(0, true, 0);
        is("where it stood", x.at(0, 1), PLACE);
        x.clear(0);
        is("where the other one stood", x.at(0, 0), PLACE);
    }

    static void promise5ChangesNothing() {
        Pegrow x = pegged();
        String before = state(x);
        x.at(0, 0);
        x.at(0, 3);
        is("state", state(x), before);
    }

    static void promise5NoRow() {
        Pegrow x = with(1);
        for (int row : NO_ROWS) {
            allAre("at a place of row " + row, BAD, x.at(row, 0), x.at(row, -1));
        }
        is("refusals", refusals(x), NO_REFUSALS);
    }

    // ---- Promise 6: lay

    static void promise6TellsTheOneThatWasThere() {
        Pegrow x = with(1, 2, 3);
        is("at the front", x.lay(0, 0, 4), 1);
        is("at the end", x.lay(0, 2, 5), 23);
        is("at the front again", x.lay(0, 0, 6), 34);
        is("row", row(x, 0), "56 12 45");
    }

    static void promise6KeepsAllElse() {
        for (int place : new int[] {0, 1, 30, 58, 59}) {
            Pegrow x = full();
            is("lay", x.lay(0, place, 7), 10 * place + place % 10);
            is("row", row(x, 0), fullBut(place, "607"));
        }
    }

    static void promise6NoPlace() {
        Pegrow x = pegged();
        String before = state(x);
        is("behind the last place", x.lay(0, 3, 1), PLACE);
        is("ahead of the first place", x.lay(0, -1, 1), PLACE);
        for (int place : FAR) {
            is("lay at " + place, x.lay(0, place, 1), PLACE);
        }
        is("refusals", refusals(x), "0 6 0 0");
        is("state", state(x), before);
    }

    static void promise6EmptyRow() {
        Pegrow x = new Pegrow();
        is("lay in none", x.lay(0, 0, 1), PLACE);
        is("refusals", refusals(x), "0 1 0 0");
        is("size", x.size(0), 0);
    }

    static void promise6FullRowIsLaidToo() {
        Pegrow x = full();
        is("behind the last place of 60", x.lay(0, 60, 1), PLACE);
        is("at the last place of 60", x.lay(0, 59, 1), 599);
        is("size", x.size(0), 60);
    }

    static void promise6NoRowOrName() {
        Pegrow x = pegged();
        String before = state(x);
        for (int i = 0; i < 4; i++) {
            allAre("bad, " + i, BAD, x.lay(NO_ROWS[i], 0, 1), x.lay(0, 0, NO_NAMES[i]), x.lay(0, 9, NO_NAMES[i]));
        }
        is("refusals", refusals(x), NO_REFUSALS);
        is("state", state(x), before);
    }

    // ---- Promise 7: insert

    static void promise7AheadOfAPlace() {
        String[] rows = {"37 1 12 23", "1 37 12 23", "1 12 37 23", "1 12 23 37"};
        for (int place = 0; place < 4; place++) {
            Pegrow x = with(1, 2, 3);
            is("insert ahead of " + place, x.insert(0, place, 7), 4);
            is("row", row(x, 0), rows[place]);
        }
    }

    static void promise7KeepsAllElse() {
        for (int place : new int[] {0, 1, 30, 58, 59}) {
            Pegrow x = full();
            x.drop(0, place);
            is("the 60th", x.insert(0, place, 7), 60);
            is("row", row(x, 0), fullBut(place, "607"));
        }
    }

    static void promise7NoPlace() {
        Pegrow x = pegged();
        String before = state(x);
        is("behind the end", x.insert(0, 4, 1), PLACE);
        is("ahead of the front", x.insert(0, -1, 1), PLACE);
        for (int place : FAR) {
            is("insert ahead of " + place, x.insert(0, place, 1), PLACE);
        }
        is("refusals", refusals(x), "0 6 0 0");
        is("state", state(x), before);
    }

    static void promise7EmptyRow() {
        Pegrow x = new Pegrow();
        is("behind the end of none", x.insert(0, 1, 4), PLACE);
        is("at the end of none", x.insert(0, 0, 4), 1);
        is("row", row(x, 0), "4");
    }

    static void promise7FullRow() {
        Pegrow x = full();
        String before = state(x);
        allAre("the 61st", FULL, x.insert(0, 0, 1), x.insert(0, 30, 1), x.insert(0, 60, 1));
        is("state", state(x), before);
        x.take(0, false, 0);
        is("the 60th", x.insert(0, 59, 1), 60);
    }

    static void promise7NoRowOrName() {
        Pegrow x = pegged();
        String before = state(x);
        for (int i = 0; i < 4; i++) {
            allAre("bad, " + i, BAD, x.insert(NO_ROWS[i], 0, 1), x.insert(0, 0, NO_NAMES[i]), x.insert(0, 9, NO_NAMES[i]));
        }
        is("refusals", refusals(x), NO_REFUSALS);
        is("state", state(x), before);
    }

    // ---- Promise 8: drop

    static void promise8TellsAndTakesTheOneThere() {
        String[] rows = {"12 23", "1 23", "1 12"};
        for (int place = 0; place < 3; place++) {
            Pegrow x = with(1, 2, 3);
            is("drop", x.drop(0, place), 11 * place + 1);
            is("row", row(x, 0), rows[place]);
        }
    }

    static void promise8KeepsAllElse() {
        for (int place : new int[] {0, 1, 30, 58, 59}) {
            Pegrow x = full();
            is("drop of 60", x.drop(0, place), 10 * place + place % 10);
            is("row", row(x, 0), fullBut(place, ""));
        }
    }

    static void promise8TheOnlyThing() {
        Pegrow x = with(6);
        is("drop", x.drop(0, 0), 6);
        is("size", x.size(0), 0);
        is("drop again", x.drop(0, 0), PLACE);
    }

    static void promise8NoPlace() {
        Pegrow x = pegged();
        String before = state(x);
        is("behind the last place", x.drop(0, 3), PLACE);
        is("ahead of the first place", x.drop(0, -1), PLACE);
        for (int place : FAR) {
            is("drop at " + place, x.drop(0, place), PLACE);
        }
        is("refusals", refusals(x), "0 6 0 0");
        is("state", state(x), before);
    }

    static void promise8EmptyRow() {
        Pegrow x = new Pegrow();
        x.peg(0, 0, 0);
        is("drop of none", x.drop(0, 0), PLACE);
        is("refusals", refusals(x), "0 1 0 0");
        is("old", x.old(0), 0);
    }

    static void promise8NoRow() {
        Pegrow x = pegged();
        String before = state(x);
        for (int row : NO_ROWS) {
            allAre("drop of row " + row, BAD, x.drop(row, 0), x.drop(row, 9));
        }
        is("refusals", refusals(x), NO_REFUSALS);
        is("state", state(x), before);
    }
}
