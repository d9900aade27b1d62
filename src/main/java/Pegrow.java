/**
 * Three rows of things, and four pegs that stand in them. A thing is held as the number by which it
 * is told (10 times its mark and its name): no two things have one number, so that a thing's number
 * is the thing itself.
 */
public final class Pegrow {
    public static final int BAD = -1, FREE = -2, FULL = -3, OLD = -4, PLACE = -5, EMPTY = -6, STATE = -7, LOST = -8;

    private static final int ROWS = 3;
    private static final int PEGS = 4;
    private static final int NAMES = 10;
    private static final int MOST = 60;
    private static final int NOWHERE = -1;
    private static final int READY = 0;

    private final Row[] rows = new Row[ROWS];
    private final Peg[] pegs = new Peg[PEGS];
    private int made;
    private int emptyRefusals;
    private int placeRefusals;
    private int stateRefusals;
    private int oldRefusals;

    public Pegrow() {
        for (int i = 0; i < rows.length; i++) {
            rows[i] = new Row();
        }
        for (int i = 0; i < pegs.length; i++) {
            pegs[i] = new Peg();
        }
    }

    // ---- both ends

    public int put(int row, int name, boolean last, int way) {
        Row r = rowOf(row);
        if (r == null || !isName(name) || way < 0 || way > 2) {
            return BAD;
        }
        if (!r.hasRoomFor(1)) {
            return FULL;
        }
        r.putAt(last ? r.length : 0, newThing(name));
        return r.length;
    }

    public int end(int row, boolean last, int way) {
        Row r = rowOf(row);
        if (r == null || !isEndWay(way, 3, last)) {
            return BAD;
        }
        if (r.length == 0) {
            return noEnd(way);
        }
        return r.thingAt(last ? r.length - 1 : 0);
    }

    public int take(int row, boolean last, int way) {
        Row r = rowOf(row);
        if (r == null || !isEndWay(way, 4, last)) {
            return BAD;
        }
        if (r.length == 0) {
            return noEnd(way);
        }
        return r.takeAt(last ? r.length - 1 : 0);
    }

    // ---- by place

    public int at(int row, int place) {
        Row r = rowOf(row);
        if (r == null) {
            return BAD;
        }
        if (!r.hasThingAt(place)) {
            return refused(PLACE);
        }
        return r.thingAt(place);
    }

    public int lay(int row, int place, int name) {
        Row r = rowOf(row);
        if (r == null || !isName(name)) {
            return BAD;
        }
        if (!r.hasThingAt(place)) {
            return refused(PLACE);
        }
        return r.layAt(place, newThing(name));
    }

    public int insert(int row, int place, int name) {
        Row r = rowOf(row);
        if (r == null || !isName(name)) {
            return BAD;
        }
        if (!r.hasRoomFor(1)) {
            return FULL;
        }
        if (!r.canPutAt(place)) {
            return refused(PLACE);
        }
        r.putAt(place, newThing(name));
        return r.length;
    }

    public int drop(int row, int place) {
        Row r = rowOf(row);
        if (r == null) {
            return BAD;
        }
        if (!r.hasThingAt(place)) {
            return refused(PLACE);
        }
        return r.takeAt(place);
    }

    // ---- by likeness

    public int find(int row, int name, boolean last) {
        Row r = rowOf(row);
        if (r == null || !isName(name)) {
            return BAD;
        }
        int place = r.placeOf(name, last);
        return place == NOWHERE ? EMPTY : place;
    }

    public int has(int row, int name) {
        Row r = rowOf(row);
        if (r == null || !isName(name)) {
            return BAD;
        }
        return oneIf(r.placeOf(name, false) != NOWHERE);
    }

    public int lose(int row, int name, int how) {
        Row r = rowOf(row);
        if (r == null || !isName(name) || how < 0 || how > 2) {
            return BAD;
        }
        int place = r.placeOf(name, how == 2);
        if (place == NOWHERE) {
            return 0;
        }
        r.takeAt(place);
        return 1;
    }

    // ---- several

    public int all(int row, int place, int other) {
        Row r = rowOf(row);
        Row o = rowOf(other);
        if (r == null || o == null || r == o) {
            return BAD;
        }
        // Ahead of the place, as the document lets any place stand where there is nothing to put.
        if (o.length == 0) {
            return r.length;
        }
        if (!r.hasRoomFor(o.length)) {
            return FULL;
        }
        int from = place == -1 ? r.length : place;
        if (!r.canPutAt(from)) {
            return refused(PLACE);
        }
        r.putAllAt(from, o);
        return r.length;
    }

    public int clear(int row) {
        Row r = rowOf(row);
        if (r == null) {
            return BAD;
        }
        int had = r.length;
        r.keepFirst(0);
        return had;
    }

    public int copy(int row, int other) {
        Row r = rowOf(row);
        Row o = rowOf(other);
        if (r == null || o == null || r == o) {
            return BAD;
        }
        for (int i = 0; i < pegs.length; i++) {
            pegs[i].leave(r);
        }
        r.becomeLike(o);
        return r.length;
    }

    public int turn(int row) {
        Row r = rowOf(row);
        if (r == null) {
            return BAD;
        }
        r.turnRound();
        return r.length;
    }

    public int weave(int row, int other) {
        Row r = rowOf(row);
        Row o = rowOf(other);
        if (r == null || o == null || r == o) {
            return BAD;
        }
        if (!r.hasRoomFor(o.length)) {
            return FULL;
        }
        // With nothing to weave in, pegs must not grow old.
        if (o.length > 0) {
            r.weaveIn(o);
        }
        return r.length;
    }

    public int prune(int row) {
        Row r = rowOf(row);
        if (r == null) {
            return BAD;
        }
        return r.takeRepeats();
    }

    public int size(int row) {
        Row r = rowOf(row);
        if (r == null) {
            return BAD;
        }
        return r.length;
    }

    public int sum(int row) {
        Row r = rowOf(row);
        if (r == null) {
            return BAD;
        }
        return r.number();
    }

    // ---- pegs

    public int peg(int peg, int row, int place) {
        Peg p = pegOf(peg);
        Row r = rowOf(row);
        if (p == null || r == null) {
            return BAD;
        }
        if (!r.canPutAt(place)) {
            return refused(PLACE);
        }
        p.standIn(r, place);
        return place;
    }

    public int next(int peg) {
        return goOver(peg, true);
    }

    public int previous(int peg) {
        return goOver(peg, false);
    }

    public int side(int peg, int what) {
        Peg p = pegOf(peg);
        if (p == null || what < 0 || what > 3) {
            return BAD;
        }
        Row r = p.row;
        if (r == null) {
            return FREE;
        }
        if (p.isOld()) {
            return OLD;
        }
        switch (what) {
            case 0:
                return oneIf(p.ahead < r.length);
            case 1:
                return oneIf(p.ahead > 0);
            default:
                return p.ahead;
        }
    }

    public int change(int peg, int name) {
        Peg p = pegOf(peg);
        if (p == null || !isName(name)) {
            return BAD;
        }
        Row r = p.row;
        if (r == null) {
            return FREE;
        }
        int fault = handFault(p, r);
        if (fault != READY) {
            return fault;
        }
        int thing = newThing(name);
        p.hold(p.hand, thing);
        return r.layAt(p.hand, thing);
    }

    public int add(int peg, int name) {
        Peg p = pegOf(peg);
        if (p == null || !isName(name)) {
            return BAD;
        }
        Row r = p.row;
        if (r == null) {
            return FREE;
        }
        if (!r.hasRoomFor(1)) {
            return FULL;
        }
        if (p.isOld()) {
            return refused(OLD);
        }
        r.putAt(p.ahead, newThing(name));
        p.standIn(r, p.ahead + 1);
        return r.length;
    }

    public int remove(int peg) {
        Peg p = pegOf(peg);
        if (p == null) {
            return BAD;
        }
        Row r = p.row;
        if (r == null) {
            return FREE;
        }
        int fault = handFault(p, r);
        if (fault != READY) {
            return fault;
        }
        int thing = r.takeAt(p.hand);
        p.standIn(r, p.hand);
        return thing;
    }

    public int old(int peg) {
        Peg p = pegOf(peg);
        if (p == null) {
            return BAD;
        }
        if (p.row == null) {
            return FREE;
        }
        return oneIf(p.isOld());
    }

    public int count(int what) {
        switch (what) {
            case 0:
                return made;
            case 1:
                return emptyRefusals;
            case 2:
                return placeRefusals;
            case 3:
                return stateRefusals;
            case 4:
                return oldRefusals;
            case 5:
                return standingPegs();
            case 6:
                return oldPegs();
            default:
                return BAD;
        }
    }

    // ---- what the calls share

    private Row rowOf(int row) {
        return row >= 0 && row < rows.length ? rows[row] : null;
    }

    private Peg pegOf(int peg) {
        return peg >= 0 && peg < pegs.length ? pegs[peg] : null;
    }

    private static boolean isName(int name) {
        return name >= 0 && name < NAMES;
    }

    // From way 2 on the library's methods know the front alone.
    private static boolean isEndWay(int way, int highest, boolean last) {
        return way >= 0 && way <= (last ? 1 : highest);
    }

    private static int oneIf(boolean so) {
        return so ? 1 : 0;
    }

    private int newThing(int name) {
        int thing = made * NAMES + name;
        made++;
        return thing;
    }

    // The library's peeks and polls have the odd ways: they answer null and refuse nothing.
    private int noEnd(int way) {
        return way % 2 == 0 ? refused(EMPTY) : EMPTY;
    }

    private int refused(int answer) {
        switch (answer) {
            case EMPTY:
                emptyRefusals++;
                break;
            case PLACE:
                placeRefusals++;
                break;
            case STATE:
                stateRefusals++;
                break;
            default:
                oldRefusals++;
                break;
        }
        return answer;
    }

    private int goOver(int peg, boolean forth) {
        Peg p = pegOf(peg);
        if (p == null) {
            return BAD;
        }
        Row r = p.row;
        if (r == null) {
            return FREE;
        }
        if (p.isOld()) {
            return refused(OLD);
        }
        int place = forth ? p.ahead : p.ahead - 1;
        if (!r.hasThingAt(place)) {
            p.missed = true;
            return refused(EMPTY);
        }
        p.ahead = forth ? place + 1 : place;
        return p.hold(place, r.thingAt(place));
    }

    // What keeps a peg from changing or taking what it has in hand, or READY.
    private int handFault(Peg p, Row r) {
        if (p.isOld()) {
            return refused(OLD);
        }
        // Ahead of STATE: a peg that missed tells LOST even if it had nothing in hand.
        if (p.missed) {
            return LOST;
        }
        if (!r.hasThingAt(p.hand)) {
            return refused(STATE);
        }
        return r.thingAt(p.hand) == p.held ? READY : LOST;
    }

    private int standingPegs() {
        int standing = 0;
        for (int i = 0; i < pegs.length; i++) {
            if (pegs[i].row != null) {
                standing++;
            }
        }
        return standing;
    }

    private int oldPegs() {
        int grownOld = 0;
        for (int i = 0; i < pegs.length; i++) {
            if (pegs[i].isOld()) {
                grownOld++;
            }
        }
        return grownOld;
    }

    /**
     * A row, in an array that is made once. Its methods take places that the caller has looked at
     * by hasThingAt or canPutAt, and put no more than hasRoomFor allows.
     */
    private static final class Row {
        private final int[] things = new int[MOST];
        private int length;
        /** How often things were put or taken: a peg that has seen another number is old. */
        private int changes;

        boolean hasThingAt(int place) {
            return place >= 0 && place < length;
        }

        boolean canPutAt(int place) {
            return place >= 0 && place <= length;
        }

        boolean hasRoomFor(int many) {
            return length + many <= MOST;
        }

        int thingAt(int place) {
            return things[place];
        }

        int layAt(int place, int thing) {
            int there = things[place];
            things[place] = thing;
            return there;
        }

        void putAt(int place, int thing) {
            openAt(place, 1);
            things[place] = thing;
        }

        void putAllAt(int place, Row other) {
            openAt(place, other.length);
            for (int i = 0; i < other.length; i++) {
                things[place + i] = other.things[i];
            }
        }

        int takeAt(int place) {
            int thing = things[place];
            for (int i = place + 1; i < length; i++) {
                things[i - 1] = things[i];
            }
            keepFirst(length - 1);
            return thing;
        }

        int placeOf(int name, boolean last) {
            int found = NOWHERE;
            for (int i = 0; i < length && (last || found == NOWHERE); i++) {
                if (things[i] % NAMES == name) {
                    found = i;
                }
            }
            return found;
        }

        void keepFirst(int many) {
            if (many != length) {
                length = many;
                changes++;
            }
        }

        void becomeLike(Row other) {
            for (int i = 0; i < other.length; i++) {
                things[i] = other.things[i];
            }
            length = other.length;
        }

        void turnRound() {
            for (int i = 0; i < length / 2; i++) {
                things[i] = layAt(length - 1 - i, things[i]);
            }
        }

        void weaveIn(Row other) {
            int pairs = Math.min(length, other.length);
            openAt(pairs, other.length);
            for (int i = pairs; i < other.length; i++) {
                things[pairs + i] = other.things[i];
            }
            // From the back on, as a pair lies behind the things that are still to be moved.
            for (int i = pairs - 1; i >= 0; i--) {
                things[2 * i + 1] = other.things[i];
                things[2 * i] = things[i];
            }
        }

        int takeRepeats() {
            int had = length;
            int kept = 0;
            int names = 0;
            for (int i = 0; i < had; i++) {
                int bit = 1 << (things[i] % NAMES);
                if ((names & bit) == 0) {
                    names |= bit;
                    things[kept] = things[i];
                    kept++;
                }
            }
            keepFirst(kept);
            return had - kept;
        }

        int number() {
            int number = 7;
            for (int i = 0; i < length; i++) {
                number = (31 * number + things[i]) % 1000003;
            }
            return number;
        }

        private void openAt(int place, int many) {
            for (int i = length - 1; i >= place; i--) {
                things[i + many] = things[i];
            }
            length += many;
            changes++;
        }
    }

    /** A peg. While it is not old, the place of what it has in hand can't have moved. */
    private static final class Peg {
        private Row row;
        private int ahead;
        private int seen;
        private int hand = NOWHERE;
        private int held;
        /** Whether the last step went over nothing, by which the hand is lost. */
        private boolean missed;

        void standIn(Row where, int place) {
            row = where;
            ahead = place;
            seen = where.changes;
            hand = NOWHERE;
            missed = false;
        }

        void leave(Row from) {
            if (row == from) {
                row = null;
            }
        }

        int hold(int place, int thing) {
            hand = place;
            held = thing;
            missed = false;
            return thing;
        }

        // The place is looked at too, as add puts there: the count of changes may wrap around.
        boolean isOld() {
            return row != null && (seen != row.changes || !row.canPutAt(ahead));
        }
    }
}
