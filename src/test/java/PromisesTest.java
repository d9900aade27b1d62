/** Each promise of the document by itself: ordinary inputs, the edges that it names, wrong inputs. */
public final class PromisesTest {
    private static final int BAD = -1, FREE = -2, FULL = -3, OLD = -4, PLACE = -5, EMPTY = -6, STATE = -7, LOST = -8;
    private static final int[] NO_ROWS = {-1, 3, Integer.MIN_VALUE, Integer.MAX_VALUE};
    private static final int[] NO_PEGS = {-1, 4, Integer.MIN_VALUE, Integer.MAX_VALUE};
    private static final int[] NO_NAMES = {-1, 10, Integer.MIN_VALUE, Integer.MAX_VALUE};

    private static final Due due = new Due();

    public static void main(String[] args) {
        promise1NewObject();
        promise2Put();
        promise3End();
        promise4Take();
        promise5At();
        promise6Lay();
        promise7Insert();
        promise8Drop();
        promise9Find();
        promise10Has();
        promise11Lose();
        promise12All();
        promise13Clear();
        promise14Copy();
        promise15Turn();
        promise16Weave();
        promise17Prune();
        promise18Size();
        promise19Sum();
        promise20Peg();
        promise21Next();
        promise22Previous();
        promise23Side();
        promise24Change();
        promise25Add();
        promise26Remove();
        promise27Old();
        promise28Count();
        hands();
        faultsInOrder();
        due.end();
    }

    /** Row 0 with the names 1, 2 and 3 (told as 1, 12 and 23), peg 0 ahead of its place 1. */
    private static Pegrow pegged() {
        Pegrow x = Due.with(1, 2, 3);
        x.peg(0, 0, 1);
        return x;
    }

    private static void same(Pegrow x, String before) {
        due.is("what may not be changed", Due.state(x), before);
    }

    private static void promise1NewObject() {
        due.about("promise 1");
        Pegrow x = new Pegrow();
        for (int row = 0; row < 3; row++) {
            due.is("size", x.size(row), 0);
            due.is("sum", x.sum(row), 7);
        }
        for (int peg = 0; peg < 4; peg++) {
            due.is("next", x.next(peg), FREE);
            due.is("old", x.old(peg), FREE);
        }
        for (int what = 0; what < 7; what++) {
            due.is("count " + what, x.count(what), 0);
        }
        Pegrow y = new Pegrow();
        x.put(0, 1, true, 0);
        due.is("another object's size", y.size(0), 0);
        due.is("another object's things", y.count(0), 0);
    }

    private static void promise2Put() {
        due.about("promise 2");
        for (int way = 0; way < 3; way++) {
            for (int row = 0; row < 3; row++) {
                Pegrow x = new Pegrow();
                due.is("put", x.put(row, 0, true, way), 1);
                due.is("put to the front", x.put(row, 9, false, way), 2);
                due.is("put to the end", x.put(row, 5, true, way), 3);
                due.is("row", Due.row(x, row), "19 0 25");
                due.is("made", x.count(0), 3);
                due.is("size of another row", x.size((row + 1) % 3), 0);
            }
            agesPegs(way);
            putIntoFullRow(way);
        }
        Pegrow x = pegged();
        String before = Due.state(x);
        for (int i = 0; i < 4; i++) {
            due.is("put, no row", x.put(NO_ROWS[i], 1, true, 0), BAD);
            due.is("put, no name", x.put(0, NO_NAMES[i], true, 0), BAD);
        }
        due.is("put, way -1", x.put(0, 1, true, -1), BAD);
        due.is("put, way 3", x.put(0, 1, false, 3), BAD);
        same(x, before);
        due.is("refusals", Due.refusals(x), "0 0 0 0");
    }

    private static void agesPegs(int way) {
        Pegrow x = pegged();
        x.peg(1, 1, 0);
        x.put(0, 1, true, way);
        due.is("old", x.old(0), 1);
        due.is("old in another row", x.old(1), 0);
        x.peg(0, 0, 1);
        x.put(0, 1, false, way);
        due.is("old", x.old(0), 1);
    }

    private static void putIntoFullRow(int way) {
        Pegrow x = new Pegrow();
        Due.fillUp(x, 1);
        x.peg(3, 1, 60);
        String before = Due.state(x);
        due.is("put, full", x.put(1, 1, true, way), FULL);
        due.is("put, full", x.put(1, 1, false, way), FULL);
        due.is("put, full and bad", x.put(1, 10, false, way), BAD);
        same(x, before);
        due.is("refusals", Due.refusals(x), "0 0 0 0");
        x.take(1, true, 0);
        due.is("put the 60th", x.put(1, 1, true, way), 60);
    }

    private static void promise3End() {
        due.about("promise 3");
        Pegrow x = pegged();
        String before = Due.state(x);
        for (int way = 0; way < 4; way++) {
            due.is("front, way " + way, x.end(0, false, way), 1);
            due.is("end, way " + way, x.end(0, true, way), way < 2 ? 23 : BAD);
            due.is("empty, way " + way, x.end(1, false, way), EMPTY);
            due.is("refused", x.count(1), way < 2 ? 1 : 2);
        }
        due.is("empty, last", x.end(1, true, 0), EMPTY);
        due.is("empty, last", x.end(1, true, 1), EMPTY);
        due.is("empty and bad", x.end(1, true, 2), BAD);
        due.is("refusals", Due.refusals(x), "3 0 0 0");
        for (int row : NO_ROWS) {
            due.is("no row", x.end(row, false, 0), BAD);
        }
        due.is("way -1", x.end(0, false, -1), BAD);
        due.is("way 4", x.end(0, false, 4), BAD);
        due.is("way -1, last", x.end(0, true, -1), BAD);
        same(x, before);
        due.is("refusals", Due.refusals(x), "3 0 0 0");
        Pegrow one = Due.with(6);
        due.is("the only one is front", one.end(0, false, 0), 6);
        due.is("the only one is end", one.end(0, true, 0), 6);
    }

    private static void promise4Take() {
        due.about("promise 4");
        for (int way = 0; way < 5; way++) {
            Pegrow x = pegged();
            due.is("front, way " + way, x.take(0, false, way), 1);
            due.is("row", Due.row(x, 0), "12 23");
            due.is("old", x.old(0), 1);
            x.peg(0, 0, 0);
            due.is("end, way " + way, x.take(0, true, way), way < 2 ? 23 : BAD);
            due.is("row", Due.row(x, 0), way < 2 ? "12" : "12 23");
            due.is("old", x.old(0), way < 2 ? 1 : 0);
        }
        takeOfNone();
        Pegrow x = pegged();
        String before = Due.state(x);
        for (int row : NO_ROWS) {
            due.is("no row", x.take(row, false, 0), BAD);
        }
        due.is("way -1", x.take(0, false, -1), BAD);
        due.is("way 5", x.take(0, false, 5), BAD);
        due.is("way -1, last", x.take(0, true, -1), BAD);
        same(x, before);
    }

    private static void takeOfNone() {
        Pegrow x = new Pegrow();
        x.peg(2, 2, 0);
        String before = Due.state(x);
        int[] refused = {1, 1, 2, 2, 3};
        for (int way = 0; way < 5; way++) {
            due.is("empty, way " + way, x.take(2, false, way), EMPTY);
            due.is("refused, way " + way, x.count(1), refused[way]);
        }
        due.is("empty, last, way 0", x.take(2, true, 0), EMPTY);
        due.is("empty, last, way 1", x.take(2, true, 1), EMPTY);
        due.is("empty and bad", x.take(2, true, 4), BAD);
        due.is("refusals", Due.refusals(x), "4 0 0 0");
        same(x, before);
    }

    private static void promise5At() {
        due.about("promise 5");
        Pegrow x = pegged();
        String before = Due.state(x);
        due.is("at 0", x.at(0, 0), 1);
        due.is("at 1", x.at(0, 1), 12);
        due.is("at 2", x.at(0, 2), 23);
        due.is("at 3", x.at(0, 3), PLACE);
        due.is("at -1", x.at(0, -1), PLACE);
        due.is("at the highest", x.at(0, Integer.MAX_VALUE), PLACE);
        due.is("at the lowest", x.at(0, Integer.MIN_VALUE), PLACE);
        due.is("at 0 of none", x.at(1, 0), PLACE);
        due.is("refusals", Due.refusals(x), "0 5 0 0");
        for (int row : NO_ROWS) {
            due.is("no row", x.at(row, -1), BAD);
        }
        same(x, before);
        due.is("refusals", Due.refusals(x), "0 5 0 0");
    }

    private static void promise6Lay() {
        due.about("promise 6");
        Pegrow x = pegged();
        due.is("lay", x.lay(0, 2, 9), 23);
        due.is("lay", x.lay(0, 0, 0), 1);
        due.is("row", Due.row(x, 0), "40 12 39");
        due.is("old", x.old(0), 0);
        due.is("next", x.next(0), 12);
        due.is("next", x.next(0), 39);
        String before = Due.state(x);
        due.is("lay at 3", x.lay(0, 3, 1), PLACE);
        due.is("lay at -1", x.lay(0, -1, 1), PLACE);
        due.is("lay in none", x.lay(1, 0, 1), PLACE);
        for (int i = 0; i < 4; i++) {
            due.is("no row", x.lay(NO_ROWS[i], 0, 1), BAD);
            due.is("no name", x.lay(0, 9, NO_NAMES[i]), BAD);
        }
        same(x, before);
        due.is("refusals", Due.refusals(x), "0 3 0 0");
        due.is("the next mark", x.lay(0, 1, 4), 12);
        due.is("row", Due.row(x, 0), "40 54 39");
    }

    private static void promise7Insert() {
        due.about("promise 7");
        Pegrow x = pegged();
        due.is("at the front", x.insert(0, 0, 7), 4);
        due.is("old", x.old(0), 1);
        due.is("inside", x.insert(0, 2, 8), 5);
        due.is("at the end", x.insert(0, 5, 9), 6);
        due.is("row", Due.row(x, 0), "37 1 48 12 23 59");
        due.is("into none", x.insert(2, 0, 0), 1);
        x.peg(1, 0, 0);
        String before = Due.state(x);
        due.is("at 7", x.insert(0, 7, 1), PLACE);
        due.is("at -1", x.insert(0, -1, 1), PLACE);
        for (int i = 0; i < 4; i++) {
            due.is("no row", x.insert(NO_ROWS[i], 0, 1), BAD);
            due.is("no name", x.insert(0, 9, NO_NAMES[i]), BAD);
        }
        same(x, before);
        due.is("refusals", Due.refusals(x), "0 2 0 0");
        Due.fillUp(x, 0);
        before = Due.state(x);
        due.is("full", x.insert(0, 60, 1), FULL);
        due.is("full and no place", x.insert(0, 61, 1), FULL);
        due.is("full and bad", x.insert(0, 61, 10), BAD);
        same(x, before);
        due.is("refusals", Due.refusals(x), "0 2 0 0");
        x.drop(0, 30);
        due.is("the 60th", x.insert(0, 59, 1), 60);
    }

    private static void promise8Drop() {
        due.about("promise 8");
        Pegrow x = Due.with(1, 2, 3, 4);
        x.peg(0, 0, 4);
        due.is("inside", x.drop(0, 1), 12);
        due.is("old", x.old(0), 1);
        due.is("row", Due.row(x, 0), "1 23 34");
        due.is("the last", x.drop(0, 2), 34);
        due.is("the first", x.drop(0, 0), 1);
        due.is("row", Due.row(x, 0), "23");
        x.peg(0, 0, 1);
        String before = Due.state(x);
        due.is("at 1", x.drop(0, 1), PLACE);
        due.is("at -1", x.drop(0, -1), PLACE);
        due.is("of none", x.drop(1, 0), PLACE);
        for (int row : NO_ROWS) {
            due.is("no row", x.drop(row, 9), BAD);
        }
        same(x, before);
        due.is("refusals", Due.refusals(x), "0 3 0 0");
        due.is("the only one", x.drop(0, 0), 23);
        due.is("size", x.size(0), 0);
    }

    private static void promise9Find() {
        due.about("promise 9");
        Pegrow x = Due.with(1, 2, 1, 3, 1, 2);
        x.peg(0, 0, 0);
        String before = Due.state(x);
        due.is("first 1", x.find(0, 1, false), 0);
        due.is("last 1", x.find(0, 1, true), 4);
        due.is("first 2", x.find(0, 2, false), 1);
        due.is("last 2", x.find(0, 2, true), 5);
        due.is("first 3", x.find(0, 3, false), 3);
        due.is("last 3", x.find(0, 3, true), 3);
        due.is("first 0", x.find(0, 0, false), EMPTY);
        due.is("last 9", x.find(0, 9, true), EMPTY);
        due.is("of none", x.find(1, 1, false), EMPTY);
        for (int i = 0; i < 4; i++) {
            due.is("no row", x.find(NO_ROWS[i], 1, false), BAD);
            due.is("no name", x.find(0, NO_NAMES[i], true), BAD);
        }
        same(x, before);
        due.is("refusals", Due.refusals(x), "0 0 0 0");
    }

    private static void promise10Has() {
        due.about("promise 10");
        Pegrow x = Due.with(0, 9, 4);
        x.peg(0, 0, 0);
        String before = Due.state(x);
        for (int name = 0; name < 10; name++) {
            due.is("has " + name, x.has(0, name), name == 0 || name == 9 || name == 4 ? 1 : 0);
            due.is("none has " + name, x.has(1, name), 0);
        }
        for (int i = 0; i < 4; i++) {
            due.is("no row", x.has(NO_ROWS[i], 1), BAD);
            due.is("no name", x.has(0, NO_NAMES[i]), BAD);
        }
        same(x, before);
        due.is("refusals", Due.refusals(x), "0 0 0 0");
    }

    private static void promise11Lose() {
        due.about("promise 11");
        String[] rows = {"12 21 33 41", "12 21 33 41", "1 12 21 33"};
        for (int how = 0; how < 3; how++) {
            Pegrow x = Due.with(1, 2, 1, 3, 1);
            x.peg(0, 0, 0);
            due.is("none, how " + how, x.lose(0, 4, how), 0);
            due.is("none of none, how " + how, x.lose(1, 4, how), 0);
            due.is("old", x.old(0), 0);
            due.is("lose, how " + how, x.lose(0, 1, how), 1);
            due.is("row, how " + how, Due.row(x, 0), rows[how]);
            due.is("old", x.old(0), 1);
            due.is("lose the only one", x.lose(0, 3, how), 1);
            due.is("it is gone", x.has(0, 3), 0);
            due.is("refusals", Due.refusals(x), "0 0 0 0");
        }
        Pegrow x = pegged();
        String before = Due.state(x);
        for (int i = 0; i < 4; i++) {
            due.is("no row", x.lose(NO_ROWS[i], 1, 0), BAD);
            due.is("no name", x.lose(0, NO_NAMES[i], 0), BAD);
        }
        due.is("how -1", x.lose(0, 1, -1), BAD);
        due.is("how 3", x.lose(0, 1, 3), BAD);
        same(x, before);
    }

    private static void promise12All() {
        due.about("promise 12");
        int[] places = {0, 1, 2, 3, -1};
        String[] rows = {"34 45 1 12 23", "1 34 45 12 23", "1 12 34 45 23", "1 12 23 34 45", "1 12 23 34 45"};
        for (int i = 0; i < places.length; i++) {
            Pegrow x = pegged();
            Due.fill(x, 1, 4, 5);
            x.peg(1, 1, 1);
            due.is("all ahead of " + places[i], x.all(0, places[i], 1), 5);
            due.is("row", Due.row(x, 0), rows[i]);
            due.is("other row", Due.row(x, 1), "34 45");
            due.is("old", x.old(0), 1);
            due.is("old in the other row", x.old(1), 0);
            due.is("made", x.count(0), 5);
        }
        Pegrow x = pegged();
        Due.fill(x, 1, 4, 5);
        due.is("into none", x.all(2, -1, 0), 3);
        due.is("row", Due.row(x, 2), "1 12 23");
        String before = Due.state(x);
        due.is("at 4", x.all(0, 4, 1), PLACE);
        due.is("at -2", x.all(0, -2, 1), PLACE);
        due.is("at the highest", x.all(0, Integer.MAX_VALUE, 1), PLACE);
        due.is("refusals", Due.refusals(x), "0 3 0 0");
        for (int row : NO_ROWS) {
            due.is("no row", x.all(row, 0, 1), BAD);
            due.is("no other row", x.all(0, 0, row), BAD);
        }
        due.is("one and the same", x.all(0, 0, 0), BAD);
        same(x, before);
        allOfNone();
        allIntoFull();
    }

    private static void allOfNone() {
        Pegrow x = pegged();
        String before = Due.state(x);
        for (int place : new int[] {0, 3, -1, 4, -2, 1000}) {
            due.is("all of none at " + place, x.all(0, place, 1), 3);
        }
        due.is("none of none", x.all(1, 7, 2), 0);
        due.is("one and the same, without things", x.all(2, 0, 2), BAD);
        due.is("refusals", Due.refusals(x), "0 0 0 0");
        same(x, before);
    }

    private static void allIntoFull() {
        Pegrow x = new Pegrow();
        Due.fillUp(x, 0);
        Due.fill(x, 1, 1, 2);
        x.peg(0, 0, 9);
        String before = Due.state(x);
        due.is("full", x.all(0, 0, 1), FULL);
        due.is("full by all of another", x.all(1, 0, 0), FULL);
        due.is("full and no place", x.all(0, 99, 1), FULL);
        due.is("full of none", x.all(0, 99, 2), 60);
        same(x, before);
        x.drop(0, 0);
        due.is("full by one", x.all(0, 0, 1), FULL);
        x.drop(0, 0);
        due.is("60 just now", x.all(0, 58, 1), 60);
        due.is("the last one", x.at(0, 59), 612);
        due.is("a whole full row", x.all(2, 0, 0), 60);
    }

    private static void promise13Clear() {
        due.about("promise 13");
        Pegrow x = pegged();
        Due.fill(x, 1, 4);
        due.is("clear", x.clear(0), 3);
        due.is("size", x.size(0), 0);
        due.is("size of another row", x.size(1), 1);
        due.is("old", x.old(0), 1);
        x.peg(0, 0, 0);
        due.is("clear of none", x.clear(0), 0);
        due.is("old", x.old(0), 0);
        due.is("put after it", x.put(0, 5, true, 0), 1);
        due.is("made", x.count(0), 5);
        String before = Due.state(x);
        for (int row : NO_ROWS) {
            due.is("no row", x.clear(row), BAD);
        }
        same(x, before);
    }

    private static void promise14Copy() {
        due.about("promise 14");
        Pegrow x = pegged();
        Due.fill(x, 1, 4, 5);
        x.peg(1, 1, 1);
        x.peg(2, 0, 0);
        x.put(0, 6, true, 0);
        x.peg(3, 0, 0);
        due.is("old", x.old(2), 1);
        due.is("copy", x.copy(0, 1), 2);
        due.is("row", Due.row(x, 0), "34 45");
        due.is("other row", Due.row(x, 1), "34 45");
        due.is("a peg of the row", x.old(0), FREE);
        due.is("an old peg of the row", x.old(2), FREE);
        due.is("a young peg of the row", x.next(3), FREE);
        due.is("a peg of the other row", x.next(1), 45);
        due.is("standing", x.count(5), 1);
        due.is("old", x.count(6), 0);
        due.is("made", x.count(0), 6);
        x.put(0, 7, true, 0);
        due.is("the other row keeps apart", Due.row(x, 1), "34 45");
        due.is("and its peg young", x.old(1), 0);
        due.is("copy of none", x.copy(0, 2), 0);
        due.is("size", x.size(0), 0);
        x.peg(0, 0, 0);
        String before = Due.state(x);
        for (int row : NO_ROWS) {
            due.is("no row", x.copy(row, 1), BAD);
            due.is("no other row", x.copy(1, row), BAD);
        }
        due.is("one and the same", x.copy(0, 0), BAD);
        same(x, before);
        copyOverFull();
    }

    private static void copyOverFull() {
        Pegrow x = new Pegrow();
        Due.fillUp(x, 0);
        Due.fillUp(x, 1);
        x.peg(0, 1, 60);
        x.next(0);
        due.is("copy of a full row over a full one", x.copy(1, 0), 60);
        due.is("sums", x.sum(1), x.sum(0));
        x.peg(0, 1, 60);
        due.is("a new peg has nothing in hand", x.remove(0), STATE);
    }

    private static void promise15Turn() {
        due.about("promise 15");
        Pegrow x = pegged();
        due.is("turn of three", x.turn(0), 3);
        due.is("row", Due.row(x, 0), "23 12 1");
        due.is("old", x.old(0), 0);
        due.is("the peg stays where it stands", x.next(0), 12);
        due.is("next", x.next(0), 1);
        x.put(0, 4, true, 0);
        due.is("turn of four", x.turn(0), 4);
        due.is("row", Due.row(x, 0), "34 1 12 23");
        due.is("turn of none", x.turn(1), 0);
        x.put(1, 5, true, 0);
        due.is("turn of one", x.turn(1), 1);
        due.is("row", Due.row(x, 1), "45");
        due.is("made", x.count(0), 5);
        String before = Due.state(x);
        for (int row : NO_ROWS) {
            due.is("no row", x.turn(row), BAD);
        }
        same(x, before);
    }

    private static void promise16Weave() {
        due.about("promise 16");
        weave(new int[] {1, 2}, new int[] {3, 4}, "1 23 12 34");
        weave(new int[] {1, 2, 3}, new int[] {4}, "1 34 12 23");
        weave(new int[] {1}, new int[] {2, 3, 4}, "1 12 23 34");
        weave(new int[] {}, new int[] {2, 3, 4}, "2 13 24");
        weave(new int[] {1, 2, 3, 4}, new int[] {5, 6}, "1 45 12 56 23 34");
        weave(new int[] {1, 2}, new int[] {3, 4, 5, 6, 7}, "1 23 12 34 45 56 67");
        Pegrow x = pegged();
        Due.fill(x, 1, 4);
        String before = Due.state(x);
        due.is("weave of none", x.weave(0, 2), 3);
        for (int row : NO_ROWS) {
            due.is("no row", x.weave(row, 1), BAD);
            due.is("no other row", x.weave(1, row), BAD);
        }
        due.is("one and the same", x.weave(0, 0), BAD);
        due.is("one and the same, without things", x.weave(2, 2), BAD);
        same(x, before);
        weaveIntoFull();
    }

    private static void weave(int[] names, int[] others, String woven) {
        Pegrow x = Due.with(names);
        Due.fill(x, 2, others);
        x.peg(0, 0, 0);
        x.peg(1, 2, 0);
        String other = Due.row(x, 2);
        due.is("weave", x.weave(0, 2), names.length + others.length);
        due.is("row", Due.row(x, 0), woven);
        due.is("other row", Due.row(x, 2), other);
        due.is("old", x.old(0), 1);
        due.is("old in the other row", x.old(1), 0);
        due.is("made", x.count(0), names.length + others.length);
    }

    private static void weaveIntoFull() {
        Pegrow x = new Pegrow();
        Due.fillUp(x, 0);
        Due.fill(x, 1, 1, 2);
        x.peg(0, 0, 9);
        String before = Due.state(x);
        due.is("full", x.weave(0, 1), FULL);
        due.is("full by the other", x.weave(1, 0), FULL);
        due.is("full, of none", x.weave(0, 2), 60);
        same(x, before);
        due.is("refusals", Due.refusals(x), "0 0 0 0");
        x.drop(0, 0);
        due.is("full by one", x.weave(0, 1), FULL);
        x.drop(0, 0);
        due.is("60 just now", x.weave(0, 1), 60);
        due.is("the first of them", x.at(0, 1), 601);
        due.is("the second of them", x.at(0, 3), 612);
    }

    private static void promise17Prune() {
        due.about("promise 17");
        Pegrow x = Due.with(9, 0, 9, 9, 1, 0, 1, 5);
        x.peg(0, 0, 0);
        due.is("prune", x.prune(0), 4);
        due.is("row", Due.row(x, 0), "9 10 41 75");
        due.is("old", x.old(0), 1);
        x.peg(0, 0, 0);
        due.is("prune again", x.prune(0), 0);
        due.is("row", Due.row(x, 0), "9 10 41 75");
        due.is("old", x.old(0), 0);
        due.is("prune of none", x.prune(1), 0);
        x.all(0, 0, 1);
        x.copy(1, 0);
        x.all(0, 0, 1);
        due.is("prune of one thing that stands twice", x.prune(0), 4);
        due.is("row", Due.row(x, 0), "9 10 41 75");
        x.peg(0, 0, 0);
        String before = Due.state(x);
        for (int row : NO_ROWS) {
            due.is("no row", x.prune(row), BAD);
        }
        same(x, before);
    }

    private static void promise18Size() {
        due.about("promise 18");
        Pegrow x = Due.with(1, 2);
        Due.fill(x, 2, 3);
        due.is("size", x.size(0), 2);
        due.is("size", x.size(1), 0);
        due.is("size", x.size(2), 1);
        Due.fillUp(x, 1);
        due.is("size", x.size(1), 60);
        for (int row : NO_ROWS) {
            due.is("no row", x.size(row), BAD);
        }
        due.is("refusals", Due.refusals(x), "0 0 0 0");
    }

    private static void promise19Sum() {
        due.about("promise 19");
        Pegrow x = Due.with(4, 7);
        due.is("sum", x.sum(0), (7 * 31 + 4) * 31 + 17);
        due.is("sum of none", x.sum(1), 7);
        x.turn(0);
        due.is("sum, in order", x.sum(0), (7 * 31 + 17) * 31 + 4);
        Due.fillUp(x, 0);
        long number = 7;
        for (int place = 0; place < 60; place++) {
            number = (number * 31 + x.at(0, place)) % 1000003;
        }
        due.is("sum, by modulo", x.sum(0), number);
        for (int row : NO_ROWS) {
            due.is("no row", x.sum(row), BAD);
        }
    }

    private static void promise20Peg() {
        due.about("promise 20");
        Pegrow x = Due.with(1, 2, 3);
        Due.fill(x, 1, 4);
        for (int peg = 0; peg < 4; peg++) {
            for (int place = 0; place < 4; place++) {
                due.is("peg", x.peg(peg, 0, place), place);
                due.is("ahead of it", x.side(peg, 2), place);
                due.is("nothing in hand", x.remove(peg), STATE);
            }
        }
        due.is("all stand", x.count(5), 4);
        x.next(0);
        x.previous(0);
        due.is("previous", x.previous(0), 12);
        String before = Due.state(x);
        due.is("peg at 4", x.peg(0, 0, 4), PLACE);
        due.is("peg at -1", x.peg(0, 0, -1), PLACE);
        due.is("peg in another row", x.peg(0, 1, 2), PLACE);
        due.is("refusals", Due.refusals(x), "1 3 16 0");
        for (int i = 0; i < 4; i++) {
            due.is("no row", x.peg(0, NO_ROWS[i], 9), BAD);
            due.is("no peg", x.peg(NO_PEGS[i], 0, 9), BAD);
        }
        same(x, before);
        due.is("it has in hand what it had", x.change(0, 5), 12);
        due.is("peg in another row", x.peg(0, 1, 1), 1);
        due.is("previous there", x.previous(0), 34);
        due.is("an old peg is set again", pegOfOld(), 0);
    }

    private static int pegOfOld() {
        Pegrow x = pegged();
        x.put(0, 1, true, 0);
        due.is("a refused setting leaves it old", x.peg(0, 0, 5), PLACE);
        due.is("old", x.old(0), 1);
        x.peg(0, 0, 4);
        due.is("previous", x.previous(0), 31);
        return x.old(0);
    }

    private static void promise21Next() {
        due.about("promise 21");
        Pegrow x = pegged();
        due.is("next", x.next(0), 12);
        due.is("next", x.next(0), 23);
        due.is("in hand", x.change(0, 4), 23);
        due.is("at the end", x.next(0), EMPTY);
        due.is("at the end", x.next(0), EMPTY);
        due.is("lost", x.remove(0), LOST);
        due.is("where it stands", x.side(0, 2), 3);
        due.is("row", Due.row(x, 0), "1 12 34");
        due.is("refusals", Due.refusals(x), "2 0 0 0");
        due.is("free", x.next(1), FREE);
        for (int peg : NO_PEGS) {
            due.is("no peg", x.next(peg), BAD);
        }
        x.put(0, 5, true, 0);
        due.is("old", x.next(0), OLD);
        due.is("refusals", Due.refusals(x), "2 0 0 1");
        x.clear(0);
        due.is("old and at the end", x.next(0), OLD);
        due.is("refusals", Due.refusals(x), "2 0 0 2");
    }

    private static void promise22Previous() {
        due.about("promise 22");
        Pegrow x = pegged();
        due.is("previous", x.previous(0), 1);
        due.is("in hand", x.change(0, 4), 1);
        due.is("at the front", x.previous(0), EMPTY);
        due.is("at the front", x.previous(0), EMPTY);
        due.is("lost", x.remove(0), LOST);
        due.is("where it stands", x.side(0, 2), 0);
        due.is("refusals", Due.refusals(x), "2 0 0 0");
        due.is("next", x.next(0), 34);
        due.is("next", x.next(0), 12);
        due.is("previous", x.previous(0), 12);
        due.is("previous", x.previous(0), 34);
        due.is("free", x.previous(1), FREE);
        for (int peg : NO_PEGS) {
            due.is("no peg", x.previous(peg), BAD);
        }
        x.drop(0, 2);
        due.is("old and at the front", x.previous(0), OLD);
        due.is("refusals", Due.refusals(x), "2 0 0 1");
    }

    private static void promise23Side() {
        due.about("promise 23");
        Pegrow x = Due.with(1, 2, 3);
        for (int place = 0; place < 4; place++) {
            x.peg(0, 0, place);
            due.is("behind it", x.side(0, 0), place < 3 ? 1 : 0);
            due.is("ahead of it", x.side(0, 1), place > 0 ? 1 : 0);
            due.is("how many", x.side(0, 2), place);
            due.is("how many, the other way", x.side(0, 3), place);
        }
        x.peg(1, 1, 0);
        due.is("nothing behind", x.side(1, 0), 0);
        due.is("nothing ahead", x.side(1, 1), 0);
        due.is("how many of none", x.side(1, 2), 0);
        due.is("how many of none", x.side(1, 3), 0);
        x.put(0, 4, true, 0);
        for (int what = 0; what < 4; what++) {
            due.is("old", x.side(0, what), OLD);
            due.is("free", x.side(2, what), FREE);
        }
        for (int peg : NO_PEGS) {
            due.is("no peg", x.side(peg, 0), BAD);
        }
        due.is("what -1", x.side(0, -1), BAD);
        due.is("what 4", x.side(2, 4), BAD);
        due.is("refusals", Due.refusals(x), "0 0 0 0");
    }

    private static void promise24Change() {
        due.about("promise 24");
        Pegrow x = pegged();
        x.peg(1, 0, 1);
        due.is("nothing in hand", x.change(0, 4), STATE);
        due.is("made", x.count(0), 3);
        x.next(0);
        due.is("change", x.change(0, 4), 12);
        due.is("change again", x.change(0, 5), 34);
        due.is("row", Due.row(x, 0), "1 45 23");
        due.is("it stays", x.side(0, 2), 2);
        due.is("made", x.count(0), 5);
        due.is("old", x.old(0) + x.old(1), 0);
        x.previous(0);
        x.previous(0);
        due.is("change behind previous", x.change(0, 6), 1);
        due.is("it stays", x.side(0, 2), 0);
        due.is("row", Due.row(x, 0), "56 45 23");
        due.is("refusals", Due.refusals(x), "0 0 1 0");
        String before = Due.state(x);
        due.is("free", x.change(3, 4), FREE);
        for (int i = 0; i < 4; i++) {
            due.is("no peg", x.change(NO_PEGS[i], 1), BAD);
            due.is("no name", x.change(0, NO_NAMES[i]), BAD);
            due.is("no name and free", x.change(3, NO_NAMES[i]), BAD);
        }
        same(x, before);
        x.put(0, 7, true, 0);
        due.is("old", x.change(0, 8), OLD);
        due.is("old, with nothing in hand", x.change(1, 8), OLD);
        due.is("refusals", Due.refusals(x), "0 0 1 2");
        due.is("made", x.count(0), 7);
    }

    private static void promise25Add() {
        due.about("promise 25");
        Pegrow x = pegged();
        x.peg(1, 0, 1);
        x.peg(2, 1, 0);
        due.is("add", x.add(0, 4), 4);
        due.is("add", x.add(0, 5), 5);
        due.is("row", Due.row(x, 0), "1 34 45 12 23");
        due.is("it stands behind", x.side(0, 2), 3);
        due.is("not old", x.old(0), 0);
        due.is("another one is old", x.old(1), 1);
        due.is("not in another row", x.old(2), 0);
        due.is("nothing in hand", x.remove(0), STATE);
        due.is("next", x.next(0), 12);
        x.add(0, 6);
        due.is("nothing in hand behind it", x.change(0, 6), STATE);
        due.is("previous", x.previous(0), 56);
        due.is("into none", x.add(2, 7), 1);
        due.is("to the end", x.add(2, 8), 2);
        due.is("row", Due.row(x, 1), "67 78");
        due.is("refusals", Due.refusals(x), "0 0 2 0");
        String before = Due.state(x);
        due.is("old", x.add(1, 4), OLD);
        due.is("free", x.add(3, 4), FREE);
        for (int i = 0; i < 4; i++) {
            due.is("no peg", x.add(NO_PEGS[i], 1), BAD);
            due.is("no name", x.add(0, NO_NAMES[i]), BAD);
        }
        same(x, before);
        due.is("refusals", Due.refusals(x), "0 0 2 1");
        Due.fillUp(x, 0);
        x.peg(0, 0, 60);
        before = Due.state(x);
        due.is("full", x.add(0, 1), FULL);
        due.is("full and old", x.add(1, 1), FULL);
        same(x, before);
        due.is("refusals", Due.refusals(x), "0 0 2 1");
        x.previous(0);
        x.remove(0);
        due.is("the 60th", x.add(0, 1), 60);
    }

    private static void promise26Remove() {
        due.about("promise 26");
        Pegrow x = Due.with(1, 2, 3, 4);
        x.peg(0, 0, 1);
        x.peg(1, 0, 1);
        x.peg(2, 1, 0);
        due.is("nothing in hand", x.remove(0), STATE);
        x.next(0);
        due.is("remove behind next", x.remove(0), 12);
        due.is("row", Due.row(x, 0), "1 23 34");
        due.is("where that stood", x.side(0, 2), 1);
        due.is("nothing in hand", x.remove(0), STATE);
        due.is("nothing in hand", x.change(0, 5), STATE);
        due.is("not old", x.old(0), 0);
        due.is("another one is old", x.old(1), 1);
        due.is("not in another row", x.old(2), 0);
        due.is("previous", x.previous(0), 1);
        due.is("remove behind previous", x.remove(0), 1);
        due.is("where that stood", x.side(0, 2), 0);
        due.is("row", Due.row(x, 0), "23 34");
        due.is("next", x.next(0), 23);
        due.is("refusals", Due.refusals(x), "0 0 3 0");
        String before = Due.state(x);
        due.is("free", x.remove(3), FREE);
        due.is("old", x.remove(1), OLD);
        for (int peg : NO_PEGS) {
            due.is("no peg", x.remove(peg), BAD);
        }
        same(x, before);
        due.is("refusals", Due.refusals(x), "0 0 3 1");
        due.is("remove", x.remove(0), 23);
        x.next(0);
        due.is("remove the last one", x.remove(0), 34);
        due.is("nothing is left", x.next(0), EMPTY);
    }

    private static void promise27Old() {
        due.about("promise 27");
        Pegrow x = pegged();
        due.is("set now", x.old(0), 0);
        x.lay(0, 1, 4);
        x.turn(0);
        x.put(1, 5, true, 0);
        due.is("young", x.old(0), 0);
        x.put(0, 6, true, 0);
        due.is("old", x.old(0), 1);
        x.take(0, true, 0);
        due.is("it stays old", x.old(0), 1);
        x.peg(1, 0, 1);
        x.peg(2, 0, 1);
        x.add(1, 7);
        due.is("old by a peg at the same place", x.old(2), 1);
        due.is("young by its own", x.old(1), 0);
        x.next(1);
        x.remove(1);
        due.is("young by its own", x.old(1), 0);
        due.is("free", x.old(3), FREE);
        for (int peg : NO_PEGS) {
            due.is("no peg", x.old(peg), BAD);
        }
        due.is("refusals", Due.refusals(x), "0 0 0 0");
    }

    private static void promise28Count() {
        due.about("promise 28");
        Pegrow x = pegged();
        x.peg(1, 0, 3);
        x.peg(2, 1, 0);
        x.next(2);
        x.at(0, 9);
        x.at(0, 9);
        for (int i = 0; i < 3; i++) {
            x.change(0, 1);
        }
        x.drop(0, 0);
        for (int i = 0; i < 4; i++) {
            x.next(1);
        }
        int[] counts = {3, 1, 2, 3, 4, 3, 2};
        for (int what = 0; what < 7; what++) {
            due.is("count " + what, x.count(what), counts[what]);
        }
        due.is("count -1", x.count(-1), BAD);
        due.is("count 7", x.count(7), BAD);
        due.is("count of the lowest", x.count(Integer.MIN_VALUE), BAD);
        x.lay(0, 0, 1);
        x.insert(0, 0, 1);
        x.add(2, 1);
        x.previous(2);
        x.change(2, 2);
        due.is("made", x.count(0), 7);
        x.copy(0, 1);
        due.is("standing", x.count(5), 1);
        due.is("old", x.count(6), 0);
    }

    /** What the terms say of hands, over all the calls of a peg. */
    private static void hands() {
        due.about("hands");
        lostByLay();
        lostByTurn();
        lostByAnotherPeg();
        lostByMissing();
    }

    private static void lostByLay() {
        Pegrow x = pegged();
        x.next(0);
        x.lay(0, 0, 5);
        x.lay(0, 2, 5);
        due.is("laid beside it", x.change(0, 6), 12);
        x.lay(0, 1, 6);
        String before = Due.state(x);
        due.is("a like one laid", x.change(0, 7), LOST);
        due.is("a like one laid", x.remove(0), LOST);
        same(x, before);
        due.is("refusals", Due.refusals(x), "0 0 0 0");
        due.is("previous", x.previous(0), 66);
        due.is("in hand again", x.remove(0), 66);
    }

    private static void lostByTurn() {
        Pegrow x = Due.with(1, 2, 3);
        x.peg(0, 0, 0);
        x.next(0);
        x.turn(0);
        due.is("turned", x.change(0, 4), LOST);
        x.turn(0);
        due.is("turned back", x.change(0, 4), 1);
        x.turn(0);
        due.is("turned", x.remove(0), LOST);
        x.turn(0);
        due.is("turned back", x.remove(0), 34);
        x.peg(0, 0, 0);
        x.clear(2);
        x.copy(2, 0);
        x.all(0, -1, 2);
        x.turn(2);
        due.is("row", Due.row(x, 0), "12 23 12 23");
        x.drop(0, 3);
        x.peg(0, 0, 0);
        x.next(0);
        x.turn(0);
        due.is("one thing at both ends", x.remove(0), 12);
        x.put(0, 9, true, 0);
        x.peg(0, 0, 1);
        x.next(0);
        x.turn(0);
        due.is("in the middle", x.change(0, 0), 12);
    }

    private static void lostByAnotherPeg() {
        Pegrow x = pegged();
        x.peg(1, 0, 2);
        x.next(0);
        x.previous(1);
        due.is("the other one", x.change(1, 4), 12);
        due.is("lost", x.change(0, 5), LOST);
        due.is("lost", x.remove(0), LOST);
        due.is("the other one has it", x.change(1, 5), 34);
        x.turn(0);
        x.turn(0);
        due.is("it stays lost", x.remove(0), LOST);
        x.add(0, 6);
        due.is("nothing in hand behind add", x.remove(0), STATE);
        due.is("the other one is old", x.change(1, 5), OLD);
        due.is("refusals", Due.refusals(x), "0 0 1 1");
    }

    private static void lostByMissing() {
        Pegrow x = Due.with(1);
        x.peg(0, 0, 0);
        due.is("previous", x.previous(0), EMPTY);
        due.is("lost with nothing in hand", x.change(0, 2), LOST);
        due.is("lost with nothing in hand", x.remove(0), LOST);
        due.is("refused setting", x.peg(0, 0, 2), PLACE);
        due.is("still lost", x.remove(0), LOST);
        x.peg(0, 0, 0);
        due.is("set again", x.remove(0), STATE);
        x.previous(0);
        x.add(0, 2);
        due.is("add", x.remove(0), STATE);
        x.next(0);
        x.next(0);
        x.turn(0);
        x.turn(0);
        due.is("missed, and turned to and fro", x.remove(0), LOST);
        due.is("previous", x.previous(0), 1);
        due.is("in hand again", x.change(0, 3), 1);
        x.previous(0);
        x.previous(0);
        x.put(1, 4, true, 0);
        due.is("still lost", x.remove(0), LOST);
        x.put(0, 4, true, 0);
        due.is("old ahead of lost", x.remove(0), OLD);
        due.is("old ahead of lost", x.change(0, 4), OLD);
    }

    /** Of several answers below 0 the first one is told. */
    private static void faultsInOrder() {
        due.about("faults in order");
        Pegrow x = new Pegrow();
        due.is("bad, free", x.add(0, 10), BAD);
        due.is("bad, free", x.side(0, 4), BAD);
        due.is("bad, empty", x.end(0, false, 4), BAD);
        due.is("bad, empty", x.take(0, true, 2), BAD);
        due.is("bad, place", x.lay(0, 5, 10), BAD);
        due.is("bad, place", x.peg(4, 0, 5), BAD);
        Due.fillUp(x, 0);
        x.peg(0, 0, 60);
        x.next(0);
        x.peg(1, 0, 0);
        x.next(1);
        x.remove(1);
        due.is("old, lost", x.remove(0), OLD);
        due.is("old, empty", x.next(0), OLD);
        x.put(0, 1, true, 0);
        due.is("full, old", x.add(0, 1), FULL);
        due.is("bad, full, old", x.add(0, -1), BAD);
        due.is("full, place", x.insert(0, -1, 1), FULL);
        due.is("refusals", Due.refusals(x), "1 0 0 2");
    }
}
