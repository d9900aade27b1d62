/**
 * Long runs of mixed calls, each answered by Pegrow and by the library's own lists. The runs come
 * from a fixed sequence of numbers, so that each time they are the same.
 */
public final class LibraryTest {
    private static final int RUNS = 6000;
    // With the ten that are asked at the end, the 512 that an object is used for.
    private static final int CALLS = 502;
    private static final String[] NAMES = {
        "put", "end", "take", "at", "lay", "insert", "drop", "find", "has", "lose", "all", "clear", "copy", "turn",
        "weave", "prune", "size", "sum", "peg", "next", "previous", "side", "change", "add", "remove", "old", "count"};
    // How often each call comes, in the order of NAMES: all alike, full rows, busy pegs, and few things that stand
    // in several places, where what was lost comes back.
    private static final int[][] WEIGHTS = {
        {9, 3, 3, 3, 3, 3, 3, 3, 3, 3, 3, 1, 1, 3, 3, 1, 2, 3, 9, 6, 6, 6, 6, 6, 6, 3, 4},
        {60, 2, 2, 2, 4, 20, 2, 2, 1, 2, 6, 0, 1, 2, 6, 1, 2, 3, 9, 6, 6, 3, 6, 9, 3, 2, 3},
        {4, 0, 1, 0, 3, 1, 1, 0, 0, 1, 1, 0, 1, 4, 1, 1, 0, 2, 12, 30, 30, 6, 14, 14, 14, 3, 3},
        {3, 2, 8, 1, 8, 2, 4, 1, 1, 4, 5, 2, 5, 20, 3, 3, 1, 3, 16, 20, 20, 5, 20, 6, 8, 2, 3}};
    private static final int[] ODD = {-1, -2, 3, 4, 5, 7, 10, 59, 60, 61, 1000, Integer.MAX_VALUE, Integer.MIN_VALUE};

    private static long seed;

    public static void main(String[] args) {
        Due due = new Due();
        for (int run = 1; run <= RUNS && due.wrongs() == 0; run++) {
            seed = run;
            run(due, run);
        }
        due.end();
    }

    private static void run(Due due, int run) {
        Pegrow x = new Pegrow();
        LibraryModel y = new LibraryModel();
        for (int call = 1; call <= CALLS && due.wrongs() == 0; call++) {
            due.about("run " + run + ", call " + call);
            ask(due, x, y, pick(WEIGHTS[run % WEIGHTS.length]));
        }
        for (int row = 0; row < 3; row++) {
            due.is("at the end sum " + row, x.sum(row), y.sum(row));
        }
        for (int what = 0; what < 7; what++) {
            due.is("at the end count " + what, x.count(what), y.count(what));
        }
    }

    private static int below(int bound) {
        seed = seed * 6364136223846793005L + 1442695040888963407L;
        return (int) ((seed >>> 33) % bound);
    }

    private static int pick(int[] weights) {
        int all = 0;
        for (int weight : weights) {
            all += weight;
        }
        int left = below(all);
        int index = 0;
        while (left >= weights[index]) {
            left -= weights[index];
            index++;
        }
        return index;
    }

    /** A number below the bound, and now and then one that may be none of those. */
    private static int number(int bound) {
        return below(40) == 0 ? ODD[below(ODD.length)] : below(bound);
    }

    private static int place(LibraryModel y, int row) {
        int size = Math.max(0, y.size(row));
        return switch (below(8)) {
            case 0 -> size;
            case 1 -> size + 1 - below(3);
            case 2 -> below(3) - 1;
            default -> number(size + 1);
        };
    }

    private static void ask(Due due, Pegrow x, LibraryModel y, int call) {
        int row = number(3);
        int other = number(3);
        int peg = number(4);
        int place = place(y, row);
        int name = number(below(2) == 0 ? 3 : 10);
        boolean last = below(2) == 0;
        int what = number(7);
        String text = NAMES[call] + " of row " + row + ", other " + other + ", peg " + peg + ", place " + place
                + ", name " + name + ", last " + last + ", what " + what;
        int got;
        int want;
        switch (NAMES[call]) {
            case "put" -> { got = x.put(row, name, last, what % 4); want = y.put(row, name, last, what % 4); }
            case "end" -> { got = x.end(row, last, what % 5); want = y.end(row, last, what % 5); }
            case "take" -> { got = x.take(row, last, what); want = y.take(row, last, what); }
            case "at" -> { got = x.at(row, place); want = y.at(row, place); }
            case "lay" -> { got = x.lay(row, place, name); want = y.lay(row, place, name); }
            case "insert" -> { got = x.insert(row, place, name); want = y.insert(row, place, name); }
            case "drop" -> { got = x.drop(row, place); want = y.drop(row, place); }
            case "find" -> { got = x.find(row, name, last); want = y.find(row, name, last); }
            case "has" -> { got = x.has(row, name); want = y.has(row, name); }
            case "lose" -> { got = x.lose(row, name, what % 4); want = y.lose(row, name, what % 4); }
            case "all" -> { got = x.all(row, place, other); want = y.all(row, place, other); }
            case "clear" -> { got = x.clear(row); want = y.clear(row); }
            case "copy" -> { got = x.copy(row, other); want = y.copy(row, other); }
            case "turn" -> { got = x.turn(row); want = y.turn(row); }
            case "weave" -> { got = x.weave(row, other); want = y.weave(row, other); }
            case "prune" -> { got = x.prune(row); want = y.prune(row); }
            case "size" -> { got = x.size(row); want = y.size(row); }
            case "sum" -> { got = x.sum(row); want = y.sum(row); }
            case "peg" -> { got = x.peg(peg, row, place); want = y.peg(peg, row, place); }
            case "next" -> { got = x.next(peg); want = y.next(peg); }
            case "previous" -> { got = x.previous(peg); want = y.previous(peg); }
            case "side" -> { got = x.side(peg, what % 5); want = y.side(peg, what % 5); }
            case "change" -> { got = x.change(peg, name); want = y.change(peg, name); }
            case "add" -> { got = x.add(peg, name); want = y.add(peg, name); }
            case "remove" -> { got = x.remove(peg); want = y.remove(peg); }
            case "old" -> { got = x.old(peg); want = y.old(peg); }
            default -> { got = x.count(what); want = y.count(what); }
        }
        due.is(text, got, want);
    }
}
