import java.util.ArrayList;
import java.util.ConcurrentModificationException;
import java.util.LinkedList;
import java.util.List;
import java.util.ListIterator;
import java.util.NoSuchElementException;
import java.util.function.IntSupplier;

/**
 * The same calls as Pegrow's, answered by the library's own LinkedList and ListIterators, as plainly
 * as the document tells them. Where the document and the library must be of one mind on whether a
 * peg is old, the model throws an AssertionError if they are not.
 */
final class LibraryModel {
    static final int BAD = -1, FREE = -2, FULL = -3, OLD = -4, PLACE = -5, EMPTY = -6, STATE = -7, LOST = -8;

    /** A thing; things of one name are like. */
    private static final class Thing {
        final int mark;
        final int name;

        Thing(int mark, int name) {
            this.mark = mark;
            this.name = name;
        }

        int told() {
            return 10 * mark + name;
        }

        @Override
        public boolean equals(Object other) {
            return other instanceof Thing thing && thing.name == name;
        }

        @Override
        public int hashCode() {
            return name;
        }
    }

    private static final class Pin {
        int row = -1;
        ListIterator<Thing> steps;
        boolean old;
        boolean missed;
        Thing hand;
        int handPlace;
    }

    private final List<LinkedList<Thing>> rows = new ArrayList<>();
    private final List<Pin> pins = new ArrayList<>();
    private final int[] refusals = new int[4];
    private int made;

    LibraryModel() {
        for (int i = 0; i < 3; i++) {
            rows.add(new LinkedList<>());
        }
        for (int i = 0; i < 4; i++) {
            pins.add(new Pin());
        }
    }

    private boolean noRow(int row) {
        return row < 0 || row > 2;
    }

    private boolean noPin(int peg) {
        return peg < 0 || peg > 3;
    }

    private boolean noName(int name) {
        return name < 0 || name > 9;
    }

    private Thing fresh(int name) {
        return new Thing(made, name);
    }

    private int refusedAs(RuntimeException e) {
        if (e instanceof NoSuchElementException) {
            refusals[0]++;
            return EMPTY;
        }
        if (e instanceof IndexOutOfBoundsException) {
            refusals[1]++;
            return PLACE;
        }
        if (e instanceof IllegalStateException) {
            refusals[2]++;
            return STATE;
        }
        if (e instanceof ConcurrentModificationException) {
            refusals[3]++;
            return OLD;
        }
        throw e;
    }

    private int asking(IntSupplier call) {
        try {
            return call.getAsInt();
        } catch (RuntimeException e) {
            return refusedAs(e);
        }
    }

    private void age(int row, Pin but) {
        for (Pin pin : pins) {
            if (pin.row == row && pin != but) {
                pin.old = true;
            }
        }
    }

    private int toldOrEmpty(Thing thing) {
        return thing == null ? EMPTY : thing.told();
    }

    int put(int row, int name, boolean last, int way) {
        if (noRow(row) || noName(name) || way < 0 || way > 2) {
            return BAD;
        }
        LinkedList<Thing> list = rows.get(row);
        if (list.size() >= 60) {
            return FULL;
        }
        Thing thing = fresh(name);
        made++;
        if (way == 0) {
            if (last) {
                list.addLast(thing);
            } else {
                list.addFirst(thing);
            }
        } else if (way == 1) {
            boolean so = last ? list.offerLast(thing) : list.offerFirst(thing);
            assertSo(so);
        } else if (last) {
            list.add(thing);
        } else {
            list.push(thing);
        }
        age(row, null);
        return list.size();
    }

    int end(int row, boolean last, int way) {
        if (noRow(row) || way < 0 || way > 3 || (way > 1 && last)) {
            return BAD;
        }
        LinkedList<Thing> list = rows.get(row);
        return asking(() -> switch (way) {
            case 0 -> (last ? list.getLast() : list.getFirst()).told();
            case 1 -> toldOrEmpty(last ? list.peekLast() : list.peekFirst());
            case 2 -> list.element().told();
            default -> toldOrEmpty(list.peek());
        });
    }

    int take(int row, boolean last, int way) {
        if (noRow(row) || way < 0 || way > 4 || (way > 1 && last)) {
            return BAD;
        }
        LinkedList<Thing> list = rows.get(row);
        int answer = asking(() -> switch (way) {
            case 0 -> (last ? list.removeLast() : list.removeFirst()).told();
            case 1 -> toldOrEmpty(last ? list.pollLast() : list.pollFirst());
            case 2 -> list.remove().told();
            case 3 -> toldOrEmpty(list.poll());
            default -> list.pop().told();
        });
        if (answer >= 0) {
            age(row, null);
        }
        return answer;
    }

    int at(int row, int place) {
        return noRow(row) ? BAD : asking(() -> rows.get(row).get(place).told());
    }

    int lay(int row, int place, int name) {
        if (noRow(row) || noName(name)) {
            return BAD;
        }
        int answer = asking(() -> rows.get(row).set(place, fresh(name)).told());
        if (answer >= 0) {
            made++;
        }
        return answer;
    }

    int insert(int row, int place, int name) {
        if (noRow(row) || noName(name)) {
            return BAD;
        }
        if (rows.get(row).size() >= 60) {
            return FULL;
        }
        int answer = asking(() -> {
            rows.get(row).add(place, fresh(name));
            return rows.get(row).size();
        });
        if (answer >= 0) {
            made++;
            age(row, null);
        }
        return answer;
    }

    int drop(int row, int place) {
        if (noRow(row)) {
            return BAD;
        }
        int answer = asking(() -> rows.get(row).remove(place).told());
        if (answer >= 0) {
            age(row, null);
        }
        return answer;
    }

    int find(int row, int name, boolean last) {
        if (noRow(row) || noName(name)) {
            return BAD;
        }
        Thing like = new Thing(-1, name);
        int place = last ? rows.get(row).lastIndexOf(like) : rows.get(row).indexOf(like);
        return place < 0 ? EMPTY : place;
    }

    int has(int row, int name) {
        if (noRow(row) || noName(name)) {
            return BAD;
        }
        return rows.get(row).contains(new Thing(-1, name)) ? 1 : 0;
    }

    int lose(int row, int name, int how) {
        if (noRow(row) || noName(name) || how < 0 || how > 2) {
            return BAD;
        }
        LinkedList<Thing> list = rows.get(row);
        Thing like = new Thing(-1, name);
        boolean so = switch (how) {
            case 0 -> list.remove(like);
            case 1 -> list.removeFirstOccurrence(like);
            default -> list.removeLastOccurrence(like);
        };
        if (so) {
            age(row, null);
        }
        return so ? 1 : 0;
    }

    int all(int row, int place, int other) {
        if (noRow(row) || noRow(other) || row == other) {
            return BAD;
        }
        LinkedList<Thing> list = rows.get(row);
        LinkedList<Thing> from = rows.get(other);
        if (from.isEmpty()) {
            return list.size();
        }
        if (list.size() + from.size() > 60) {
            return FULL;
        }
        int answer = asking(() -> {
            assertSo(place == -1 ? list.addAll(from) : list.addAll(place, from));
            return list.size();
        });
        if (answer >= 0) {
            age(row, null);
        }
        return answer;
    }

    int clear(int row) {
        if (noRow(row)) {
            return BAD;
        }
        int had = rows.get(row).size();
        if (had > 0) {
            rows.get(row).clear();
            age(row, null);
        }
        return had;
    }

    int copy(int row, int other) {
        if (noRow(row) || noRow(other) || row == other) {
            return BAD;
        }
        rows.set(row, new LinkedList<>(rows.get(other)));
        for (int i = 0; i < 4; i++) {
            if (pins.get(i).row == row) {
                pins.set(i, new Pin());
            }
        }
        return rows.get(row).size();
    }

    int turn(int row) {
        if (noRow(row)) {
            return BAD;
        }
        LinkedList<Thing> list = rows.get(row);
        ListIterator<Thing> front = list.listIterator();
        ListIterator<Thing> back = list.listIterator(list.size());
        while (front.nextIndex() < back.previousIndex()) {
            Thing first = front.next();
            Thing last = back.previous();
            front.set(last);
            back.set(first);
        }
        return list.size();
    }

    int weave(int row, int other) {
        if (noRow(row) || noRow(other) || row == other) {
            return BAD;
        }
        LinkedList<Thing> list = rows.get(row);
        if (rows.get(other).isEmpty()) {
            return list.size();
        }
        if (list.size() + rows.get(other).size() > 60) {
            return FULL;
        }
        ListIterator<Thing> steps = list.listIterator();
        for (Thing thing : rows.get(other)) {
            if (steps.hasNext()) {
                steps.next();
            }
            steps.add(thing);
        }
        age(row, null);
        return list.size();
    }

    int prune(int row) {
        if (noRow(row)) {
            return BAD;
        }
        List<Thing> kept = new ArrayList<>();
        ListIterator<Thing> steps = rows.get(row).listIterator();
        int taken = 0;
        while (steps.hasNext()) {
            Thing thing = steps.next();
            if (kept.contains(thing)) {
                steps.remove();
                taken++;
            } else {
                kept.add(thing);
            }
        }
        if (taken > 0) {
            age(row, null);
        }
        return taken;
    }

    int size(int row) {
        return noRow(row) ? BAD : rows.get(row).size();
    }

    int sum(int row) {
        if (noRow(row)) {
            return BAD;
        }
        long number = 7;
        for (Thing thing : rows.get(row)) {
            number = (31 * number + thing.told()) % 1000003;
        }
        return (int) number;
    }

    int peg(int peg, int row, int place) {
        if (noPin(peg) || noRow(row)) {
            return BAD;
        }
        return asking(() -> {
            Pin pin = new Pin();
            pin.steps = rows.get(row).listIterator(place);
            pin.row = row;
            pins.set(peg, pin);
            return place;
        });
    }

    int next(int peg) {
        return step(peg, true);
    }

    int previous(int peg) {
        return step(peg, false);
    }

    private int step(int peg, boolean forth) {
        if (noPin(peg)) {
            return BAD;
        }
        Pin pin = pins.get(peg);
        if (pin.row < 0) {
            return FREE;
        }
        int answer = asking(() -> {
            Thing thing = forth ? pin.steps.next() : pin.steps.previous();
            pin.hand = thing;
            pin.handPlace = forth ? pin.steps.previousIndex() : pin.steps.nextIndex();
            pin.missed = false;
            return thing.told();
        });
        assertSo((answer == OLD) == pin.old);
        if (answer == EMPTY) {
            pin.missed = true;
        }
        return answer;
    }

    int side(int peg, int what) {
        if (noPin(peg) || what < 0 || what > 3) {
            return BAD;
        }
        Pin pin = pins.get(peg);
        if (pin.row < 0) {
            return FREE;
        }
        if (pin.old) {
            return OLD;
        }
        return switch (what) {
            case 0 -> pin.steps.hasNext() ? 1 : 0;
            case 1 -> pin.steps.hasPrevious() ? 1 : 0;
            case 2 -> pin.steps.nextIndex();
            default -> pin.steps.previousIndex() + 1;
        };
    }

    private boolean isLost(Pin pin) {
        return pin.missed || (pin.hand != null && rows.get(pin.row).get(pin.handPlace) != pin.hand);
    }

    int change(int peg, int name) {
        if (noPin(peg) || noName(name)) {
            return BAD;
        }
        Pin pin = pins.get(peg);
        if (pin.row < 0) {
            return FREE;
        }
        if (pin.old) {
            return oldRefusal(() -> pin.steps.set(fresh(name)));
        }
        if (isLost(pin)) {
            return LOST;
        }
        Thing thing = fresh(name);
        int answer = asking(() -> {
            pin.steps.set(thing);
            return pin.hand.told();
        });
        if (answer >= 0) {
            made++;
            pin.hand = thing;
        }
        return answer;
    }

    // An old peg's refusal is counted as OLD, whichever of its exceptions the library tells.
    private int oldRefusal(Runnable call) {
        try {
            call.run();
        } catch (ConcurrentModificationException | IllegalStateException e) {
            refusals[3]++;
            return OLD;
        }
        throw new AssertionError("the library took an old peg");
    }

    int add(int peg, int name) {
        if (noPin(peg) || noName(name)) {
            return BAD;
        }
        Pin pin = pins.get(peg);
        if (pin.row < 0) {
            return FREE;
        }
        if (rows.get(pin.row).size() >= 60) {
            return FULL;
        }
        if (pin.old) {
            return oldRefusal(() -> pin.steps.add(fresh(name)));
        }
        pin.steps.add(fresh(name));
        made++;
        emptyHand(pin);
        return rows.get(pin.row).size();
    }

    private void emptyHand(Pin pin) {
        pin.hand = null;
        pin.missed = false;
        age(pin.row, pin);
    }

    int remove(int peg) {
        if (noPin(peg)) {
            return BAD;
        }
        Pin pin = pins.get(peg);
        if (pin.row < 0) {
            return FREE;
        }
        if (pin.old) {
            return oldRefusal(() -> pin.steps.remove());
        }
        if (isLost(pin)) {
            return LOST;
        }
        int answer = asking(() -> {
            pin.steps.remove();
            return pin.hand.told();
        });
        if (answer >= 0) {
            emptyHand(pin);
        }
        return answer;
    }

    int old(int peg) {
        if (noPin(peg)) {
            return BAD;
        }
        Pin pin = pins.get(peg);
        return pin.row < 0 ? FREE : pin.old ? 1 : 0;
    }

    int count(int what) {
        if (what < 0 || what > 6) {
            return BAD;
        }
        if (what == 0) {
            return made;
        }
        if (what <= 4) {
            return refusals[what - 1];
        }
        return (int) pins.stream().filter(pin -> pin.row >= 0 && (what == 5 || pin.old)).count();
    }

    private static void assertSo(boolean so) {
        if (!so) {
            throw new AssertionError("the library answered otherwise than the model takes it to");
        }
    }
}
