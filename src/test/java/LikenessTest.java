/** Promises 9 to 11: by likeness. */
public final class LikenessTest extends Sentences {
    public static void main(String[] args) {
        runAll(LikenessTest.class);
    }

    // ---- Promise 9: find

    static void promise9FirstAndLast() {
        Pegrow x = with(1, 2, 1, 3, 1, 2);
        is("first 1", x.find(0, 1, false), 0);
        is("last 1", x.find(0, 1, true), 4);
        is("first 2", x.find(0, 2, false), 1);
        is("last 2", x.find(0, 2, true), 5);
    }

    static void promise9TheOnlyOneIsBoth() {
        Pegrow x = with(1, 3, 2);
        allAre("the only 3", 1, x.find(0, 3, false), x.find(0, 3, true));
    }

    static void promise9EndsOfAFullRow() {
        Pegrow x = full();
        is("first 0", x.find(0, 0, false), 0);
        is("last 0", x.find(0, 0, true), 50);
        is("first 9", x.find(0, 9, false), 9);
        is("last 9", x.find(0, 9, true), 59);
    }

    static void promise9NoneIsEmptyAndNotRefused() {
        Pegrow x = with(1, 2);
        allAre("none", EMPTY, x.find(0, 0, false), x.find(0, 9, true), x.find(1, 1, false), x.find(1, 1, true));
        is("refusals", refusals(x), NO_REFUSALS);
    }

    static void promise9WhatWasTakenIsNotFound() {
        Pegrow x = with(1, 2, 1);
        x.take(0, true, 0);
        is("last 1", x.find(0, 1, true), 0);
        x.clear(0);
        allAre("none", EMPTY, x.find(0, 1, false), x.find(0, 2, true));
    }

    static void promise9ChangesNothing() {
        Pegrow x = pegged();
        String before = state(x);
        x.find(0, 3, false);
        x.find(0, 1, true);
        x.find(0, 9, true);
        is("state", state(x), before);
    }

    static void promise9NoRowOrName() {
        Pegrow x = with(0, 9);
        for (int i = 0; i < 4; i++) {
            allAre("bad, " + i, BAD, x.find(NO_ROWS[i], 1, false), x.find(0, NO_NAMES[i], false),
                    x.find(0, NO_NAMES[i], true), x.find(1, NO_NAMES[i], true));
        }
    }

    // ---- Promise 10: has

    static void promise10Has() {
        Pegrow x = with(0, 9, 4);
        allAre("at the front, inside, at the end", 1, x.has(0, 0), x.has(0, 9), x.has(0, 4));
    }

    static void promise10HasNot() {
        Pegrow x = with(0, 9, 4);
        allAre("of other names", 0, x.has(0, 1), x.has(0, 3), x.has(0, 5), x.has(0, 8));
    }

    static void promise10EmptyRow() {
        Pegrow x = with(0);
        allAre("of none", 0, x.has(1, 0), x.has(1, 9));
        x.take(0, true, 0);
        is("of one that was taken", x.has(0, 0), 0);
        is("refusals", refusals(x), NO_REFUSALS);
    }

    static void promise10FullRow() {
        Pegrow x = new Pegrow();
        for (int i = 0; i < 59; i++) {
            x.put(0, 1, true, 0);
        }
        x.put(0, 2, true, 0);
        is("the 60th", x.has(0, 2), 1);
        is("none", x.has(0, 3), 0);
    }

    static void promise10ChangesNothing() {
        Pegrow x = pegged();
        String before = state(x);
        x.has(0, 3);
        x.has(0, 4);
        is("state", state(x), before);
    }

    static void promise10NoRowOrName() {
        Pegrow x = with(0, 9);
        for (int i = 0; i < 4; i++) {
            allAre("bad, " + i, BAD, x.has(NO_ROWS[i], 1), x.has(0, NO_NAMES[i]), x.has(1, NO_NAMES[i]));
        }
    }

    // ---- Promise 11: lose

    static void promise11TheFirstOne() {
        for (int how = 0; how < 2; how++) {
            Pegrow x = with(2, 1, 3, 1);
            is("how " + how, x.lose(0, 1, how), 1);
            is("row", row(x, 0), "2 23 31");
            is("how " + how, x.lose(0, 2, how), 1);
            is("row", row(x, 0), "23 31");
        }
    }

    static void promise11TheLastOne() {
        Pegrow x = with(1, 2, 1, 3);
        is("how 2", x.lose(0, 1, 2), 1);
        is("row", row(x, 0), "1 12 33");
        is("how 2", x.lose(0, 3, 2), 1);
        is("row", row(x, 0), "1 12");
    }

    static void promise11TheOnlyOne() {
        for (int how = 0; how < 3; how++) {
            Pegrow x = with(1);
            is("how " + how, x.lose(0, 1, how), 1);
            is("size", x.size(0), 0);
            is("again, how " + how, x.lose(0, 1, how), 0);
        }
    }

    static void promise11OfAFullRow() {
        Pegrow x = full();
        is("first 0", x.lose(0, 0, 1), 1);
        is("last 9", x.lose(0, 9, 2), 1);
        is("size", x.size(0), 58);
        is("front", x.at(0, 0), 11);
        is("end", x.at(0, 57), 588);
    }

    static void promise11None() {
        Pegrow x = pegged();
        x.peg(1, 1, 0);
        String before = state(x);
        for (int how = 0; how < 3; how++) {
            allAre("how " + how, 0, x.lose(0, 4, how), x.lose(1, 1, how));
        }
        is("state", state(x), before);
        is("refusals", refusals(x), NO_REFUSALS);
    }

    static void promise11NoHow() {
        Pegrow x = pegged();
        String before = state(x);
        allAre("no such how", BAD, x.lose(0, 1, -1), x.lose(0, 1, 3), x.lose(0, 1, LOWEST), x.lose(0, 1, HIGHEST));
        allAre("no such how, and none", BAD, x.lose(0, 4, -1), x.lose(1, 4, 3));
        is("state", state(x), before);
    }

    static void promise11NoRowOrName() {
        Pegrow x = pegged();
        String before = state(x);
        for (int i = 0; i < 4; i++) {
            for (int how = 0; how < 3; how++) {
                allAre("bad, " + i, BAD, x.lose(NO_ROWS[i], 1, how), x.lose(0, NO_NAMES[i], how));
            }
        }
        is("state", state(x), before);
    }
}
