import java.util.function.ToIntFunction;

/**
 * "A call that answers one of the eight changes nothing, but how many REFUSALS there were": each call
 * with each of its answers, and each call that only looks or has nothing to do. It is asked of one of
 * two objects that were made alike; whatever is asked of both from then on is answered alike.
 */
public final class UnchangedTest extends Sentences {
    // How peg 3 stands; all else is the same in each scene.
    private static final String NO_ROW = "in no row", SET = "set", IN_NONE = "in a row without things",
            AGED = "old", AGED_IN_FULL = "old in a full row", LAID_OVER = "lost by lay", MISSED = "lost by a miss";
    private static final String[] SCENES = {NO_ROW, SET, IN_NONE, AGED, AGED_IN_FULL, LAID_OVER, MISSED};

    private static final int[] FAR = {-2, 61, LOWEST, HIGHEST};
    private static final int[] NO_WHATS = {-1, 4, LOWEST, HIGHEST};
    private static final int[] FOUR = {0, 1, 2, 3};
    private static final int LOOKS = 6;

    public static void main(String[] args) {
        runAll(UnchangedTest.class);
    }

    /**
     * Row 0 has three things, row 1 is full, row 2 has none. Peg 0 stands in row 0 ahead of place 2
     * with 12 in hand, peg 1 ahead of its place 1 with nothing in hand, peg 2 in row 1 ahead of
     * place 31 with something in hand.
     */
    private static Pegrow scene(String third) {
        Pegrow x = with(1, 2, 3);
        fillTo(x, 1, 60);
        switch (third) {
            case SET -> x.peg(3, 0, 1);
            case IN_NONE -> x.peg(3, 2, 0);
            case AGED -> growOld(x, 0);
            case AGED_IN_FULL -> growOld(x, 1);
            case LAID_OVER -> layOver(x);
            case MISSED -> miss(x);
            default -> { }
        }
        x.peg(0, 0, 1);
        x.next(0);
        x.peg(1, 0, 1);
        x.peg(2, 1, 30);
        x.next(2);
        return x;
    }

    private static void growOld(Pegrow x, int row) {
        x.peg(3, row, 1);
        x.next(3);
        x.take(row, true, 0);
        x.put(row, 3, true, 0);
    }

    private static void layOver(Pegrow x) {
        x.peg(3, 0, 2);
        x.next(3);
        x.lay(0, 2, 3);
    }

    private static void miss(Pegrow x) {
        x.peg(3, 0, 2);
        x.next(3);
        x.next(3);
    }

    // What one of the pegs answers, and all that is there behind it.
    private static String look(Pegrow x, int peg, int look) {
        int answer = switch (look) {
            case 0 -> x.remove(peg);
            case 1 -> x.change(peg, 9);
            case 2 -> x.next(peg);
            case 3 -> x.previous(peg);
            case 4 -> x.add(peg, 9);
            default -> x.side(peg, 0);
        };
        return answer + ", " + state(x);
    }

    private static String refusals(Pegrow x, int answer) {
        int kind = answer == EMPTY ? 1 : answer == PLACE ? 2 : answer == STATE ? 3 : answer == OLD ? 4 : 0;
        StringBuilder counts = new StringBuilder();
        for (int what = 1; what <= 4; what++) {
            counts.append(x.count(what) + (what == kind ? 1 : 0)).append(' ');
        }
        return counts.toString();
    }

    private static void asked(String scene, int answer, int counted, ToIntFunction<Pegrow> call) {
        for (int peg = 0; peg < 4; peg++) {
            for (int look = 0; look < LOOKS; look++) {
                Pegrow x = scene(scene);
                Pegrow alike = scene(scene);
                is("the call, peg 3 " + scene, call.applyAsInt(x), answer);
                is("refusals behind " + answer + ", peg 3 " + scene, refusals(x, 0), refusals(alike, counted));
                is("peg " + peg + " behind " + answer + ", look " + look + ", peg 3 " + scene, look(x, peg, look),
                        look(alike, peg, look));
            }
        }
    }

    /** The library is not asked, or refuses nothing. */
    private static void told(int answer, ToIntFunction<Pegrow> call) {
        for (String scene : SCENES) {
            told(scene, answer, call);
        }
    }

    private static void told(String scene, int answer, ToIntFunction<Pegrow> call) {
        asked(scene, answer, 0, call);
    }

    /** The library refuses the call, and this is counted by its kind. */
    private static void refused(int answer, ToIntFunction<Pegrow> call) {
        for (String scene : SCENES) {
            refused(scene, answer, call);
        }
    }

    private static void refused(String scene, int answer, ToIntFunction<Pegrow> call) {
        asked(scene, answer, answer, call);
    }

    // ---- both ends

    static void promise2Put() {
        for (int i : FOUR) {
            told(BAD, x -> x.put(NO_ROWS[i], 1, true, 0));
            told(BAD, x -> x.put(0, NO_NAMES[i], true, 0));
        }
        for (int way : new int[] {-1, 3, LOWEST, HIGHEST}) {
            told(BAD, x -> x.put(0, 1, true, way));
            told(BAD, x -> x.put(1, 1, false, way));
        }
        for (int way : new int[] {0, 1, 2}) {
            told(FULL, x -> x.put(1, 1, true, way));
            told(FULL, x -> x.put(1, 1, false, way));
        }
    }

    static void promise3End() {
        for (int row : NO_ROWS) {
            told(BAD, x -> x.end(row, true, 0));
        }
        for (int way : new int[] {-1, 2, 3, 4, LOWEST, HIGHEST}) {
            told(BAD, x -> x.end(0, true, way));
            told(BAD, x -> x.end(2, true, way));
        }
        refused(EMPTY, x -> x.end(2, false, 0));
        refused(EMPTY, x -> x.end(2, true, 0));
        refused(EMPTY, x -> x.end(2, false, 2));
        told(EMPTY, x -> x.end(2, false, 1));
        told(EMPTY, x -> x.end(2, true, 1));
        told(EMPTY, x -> x.end(2, false, 3));
        for (int way : FOUR) {
            told(1, x -> x.end(0, false, way));
        }
        told(SET, 629, x -> x.end(1, true, 0));
        told(SET, 629, x -> x.end(1, true, 1));
    }

    static void promise4Take() {
        for (int row : NO_ROWS) {
            told(BAD, x -> x.take(row, true, 0));
        }
        for (int way : new int[] {-1, 2, 3, 4, 5, LOWEST, HIGHEST}) {
            told(BAD, x -> x.take(0, true, way));
            told(BAD, x -> x.take(2, true, way));
        }
        refused(EMPTY, x -> x.take(2, false, 0));
        refused(EMPTY, x -> x.take(2, true, 0));
        refused(EMPTY, x -> x.take(2, false, 2));
        refused(EMPTY, x -> x.take(2, false, 4));
        told(EMPTY, x -> x.take(2, false, 1));
        told(EMPTY, x -> x.take(2, true, 1));
        told(EMPTY, x -> x.take(2, false, 3));
    }

    // ---- by place

    static void promises5To8ByPlace() {
        for (int i : FOUR) {
            told(BAD, x -> x.at(NO_ROWS[i], 0));
            told(BAD, x -> x.lay(NO_ROWS[i], 0, 1));
            told(BAD, x -> x.lay(0, 0, NO_NAMES[i]));
            told(BAD, x -> x.insert(NO_ROWS[i], 0, 1));
            told(BAD, x -> x.insert(0, 0, NO_NAMES[i]));
            told(BAD, x -> x.drop(NO_ROWS[i], 0));
            told(FULL, x -> x.insert(1, FAR[i], 1));
            refused(PLACE, x -> x.at(0, FAR[i]));
            refused(PLACE, x -> x.lay(0, FAR[i], 1));
            refused(PLACE, x -> x.insert(0, FAR[i], 1));
            refused(PLACE, x -> x.drop(0, FAR[i]));
        }
        told(FULL, x -> x.insert(1, 0, 1));
        told(FULL, x -> x.insert(1, 60, 1));
    }

    static void promises5To8JustOutside() {
        for (int row : new int[] {0, 2}) {
            int size = row == 0 ? 3 : 0;
            refused(PLACE, x -> x.at(row, size));
            refused(PLACE, x -> x.at(row, -1));
            refused(PLACE, x -> x.lay(row, size, 1));
            refused(PLACE, x -> x.lay(row, -1, 1));
            refused(PLACE, x -> x.insert(row, size + 1, 1));
            refused(PLACE, x -> x.insert(row, -1, 1));
            refused(PLACE, x -> x.drop(row, size));
            refused(PLACE, x -> x.drop(row, -1));
        }
        told(1, x -> x.at(0, 0));
        told(12, x -> x.at(0, 1));
    }

    // ---- by likeness

    static void promises9To11ByLikeness() {
        for (int i : FOUR) {
            told(BAD, x -> x.find(NO_ROWS[i], 1, true));
            told(BAD, x -> x.find(0, NO_NAMES[i], false));
            told(BAD, x -> x.has(NO_ROWS[i], 1));
            told(BAD, x -> x.has(0, NO_NAMES[i]));
            told(BAD, x -> x.lose(NO_ROWS[i], 1, 0));
            told(BAD, x -> x.lose(0, NO_NAMES[i], 0));
        }
        for (int how : new int[] {-1, 3, LOWEST, HIGHEST}) {
            told(BAD, x -> x.lose(0, 1, how));
        }
        told(EMPTY, x -> x.find(0, 9, false));
        told(EMPTY, x -> x.find(2, 1, true));
        told(1, x -> x.find(0, 2, false));
        told(0, x -> x.find(0, 1, true));
        told(1, x -> x.has(0, 2));
        told(0, x -> x.has(0, 9));
        told(0, x -> x.has(2, 1));
        for (int how : new int[] {0, 1, 2}) {
            told(0, x -> x.lose(0, 9, how));
            told(0, x -> x.lose(2, 1, how));
        }
    }

    // ---- several

    static void promise12All() {
        for (int row : NO_ROWS) {
            told(BAD, x -> x.all(row, 0, 1));
            told(BAD, x -> x.all(0, 0, row));
        }
        for (int row : new int[] {0, 1, 2}) {
            told(BAD, x -> x.all(row, 0, row));
            told(BAD, x -> x.all(row, 61, row));
        }
        for (int place : new int[] {0, -1, 60, 61, -2, LOWEST, HIGHEST}) {
            told(FULL, x -> x.all(1, place, 0));
            told(FULL, x -> x.all(0, place, 1));
            told(3, x -> x.all(0, place, 2));
            told(60, x -> x.all(1, place, 2));
        }
        for (int place : new int[] {1, -2, LOWEST, HIGHEST}) {
            refused(PLACE, x -> x.all(2, place, 0));
        }
    }

    static void promises13To17WithNothingToDo() {
        for (int row : NO_ROWS) {
            told(BAD, x -> x.clear(row));
            told(BAD, x -> x.turn(row));
            told(BAD, x -> x.prune(row));
        }
        told(0, x -> x.clear(2));
        told(0, x -> x.turn(2));
        told(0, x -> x.prune(2));
        told(0, x -> x.prune(0));
    }

    static void promises14And16TwoRows() {
        for (int row : NO_ROWS) {
            told(BAD, x -> x.copy(row, 1));
            told(BAD, x -> x.copy(0, row));
            told(BAD, x -> x.weave(row, 1));
            told(BAD, x -> x.weave(0, row));
        }
        for (int row : new int[] {0, 1, 2}) {
            told(BAD, x -> x.copy(row, row));
            told(BAD, x -> x.weave(row, row));
        }
        told(FULL, x -> x.weave(0, 1));
        told(FULL, x -> x.weave(1, 0));
        told(3, x -> x.weave(0, 2));
        told(60, x -> x.weave(1, 2));
    }

    static void promises18And19SizeAndSum() {
        for (int row : NO_ROWS) {
            told(BAD, x -> x.size(row));
            told(BAD, x -> x.sum(row));
        }
        told(3, x -> x.size(0));
        told(60, x -> x.size(1));
        told(0, x -> x.size(2));
        told(7, x -> x.sum(2));
    }

    // ---- pegs

    static void promise20Peg() {
        for (int i : FOUR) {
            told(BAD, x -> x.peg(NO_PEGS[i], 0, 0));
            refused(PLACE, x -> x.peg(3, 0, FAR[i]));
            for (int peg : FOUR) {
                told(BAD, x -> x.peg(peg, NO_ROWS[i], 0));
            }
        }
        for (int peg : FOUR) {
            refused(PLACE, x -> x.peg(peg, 0, 4));
            refused(PLACE, x -> x.peg(peg, 1, -1));
            refused(PLACE, x -> x.peg(peg, 2, 1));
        }
    }

    static void promises21To27NoSuchPeg() {
        for (int peg : NO_PEGS) {
            told(BAD, x -> x.next(peg));
            told(BAD, x -> x.previous(peg));
            told(BAD, x -> x.side(peg, 0));
            told(BAD, x -> x.change(peg, 1));
            told(BAD, x -> x.add(peg, 1));
            told(BAD, x -> x.remove(peg));
            told(BAD, x -> x.old(peg));
        }
    }

    // Whatever state a peg is in.
    static void promises23To25NoSuchNameOrWhat() {
        for (int i : FOUR) {
            for (int peg : FOUR) {
                told(BAD, x -> x.change(peg, NO_NAMES[i]));
                told(BAD, x -> x.add(peg, NO_NAMES[i]));
                told(BAD, x -> x.side(peg, NO_WHATS[i]));
            }
        }
    }

    static void promises21To27Free() {
        told(NO_ROW, FREE, x -> x.next(3));
        told(NO_ROW, FREE, x -> x.previous(3));
        told(NO_ROW, FREE, x -> x.change(3, 1));
        told(NO_ROW, FREE, x -> x.add(3, 1));
        told(NO_ROW, FREE, x -> x.remove(3));
        told(NO_ROW, FREE, x -> x.old(3));
        for (int what : FOUR) {
            told(NO_ROW, FREE, x -> x.side(3, what));
        }
    }

    static void promises21To27Old() {
        for (String scene : new String[] {AGED, AGED_IN_FULL}) {
            refused(scene, OLD, x -> x.next(3));
            refused(scene, OLD, x -> x.previous(3));
            refused(scene, OLD, x -> x.change(3, 1));
            refused(scene, OLD, x -> x.remove(3));
            told(scene, 1, x -> x.old(3));
            for (int what : FOUR) {
                told(scene, OLD, x -> x.side(3, what));
            }
        }
        refused(AGED, OLD, x -> x.add(3, 1));
        told(AGED_IN_FULL, FULL, x -> x.add(3, 1));
    }

    static void promises23And27Look() {
        for (String scene : new String[] {SET, LAID_OVER, MISSED}) {
            int ahead = scene.equals(SET) ? 1 : 3;
            told(scene, ahead < 3 ? 1 : 0, x -> x.side(3, 0));
            told(scene, 1, x -> x.side(3, 1));
            told(scene, ahead, x -> x.side(3, 2));
            told(scene, ahead, x -> x.side(3, 3));
            told(scene, 0, x -> x.old(3));
        }
        told(1, x -> x.side(0, 0));
        told(2, x -> x.side(0, 2));
        told(0, x -> x.old(0));
    }

    static void promise25FullRow() {
        told(FULL, x -> x.add(2, 1));
    }

    static void promises24And26NothingInHandOrLost() {
        for (String scene : new String[] {SET, IN_NONE}) {
            refused(scene, STATE, x -> x.change(3, 1));
            refused(scene, STATE, x -> x.remove(3));
        }
        for (String scene : new String[] {LAID_OVER, MISSED}) {
            told(scene, LOST, x -> x.change(3, 1));
            told(scene, LOST, x -> x.remove(3));
        }
    }

    static void promise28Count() {
        for (int what : new int[] {-1, 7, LOWEST, HIGHEST}) {
            told(BAD, x -> x.count(what));
        }
        told(MISSED, 1, x -> x.count(1));
        told(AGED, 1, x -> x.count(6));
        told(AGED, 4, x -> x.count(5));
        told(NO_ROW, 3, x -> x.count(5));
        told(NO_ROW, 63, x -> x.count(0));
    }
}
