import java.util.StringJoiner;

/** Counts and prints the answers that are not the ones that are due. */
final class Due {
    private int wrong;
    private int asked;
    private String about = "";

    void about(String what) {
        about = what;
    }

    void is(String call, long got, long want) {
        asked++;
        if (got != want) {
            wrong(call + " answered " + got + ", due is " + want);
        }
    }

    void is(String what, String got, String want) {
        asked++;
        if (!got.equals(want)) {
            wrong(what + " is [" + got + "], due is [" + want + "]");
        }
    }

    int wrongs() {
        return wrong;
    }

    void end() {
        System.out.println(asked + " answers asked, " + wrong + " not as due");
        if (wrong != 0) {
            System.exit(1);
        }
    }

    private void wrong(String text) {
        wrong++;
        if (wrong <= 200) {
            System.out.println(about + ": " + text);
        }
    }

    /** A new object, with things of these names in row 0: their marks are 0, 1, 2 and so on. */
    static Pegrow with(int... names) {
        Pegrow x = new Pegrow();
        fill(x, 0, names);
        return x;
    }

    static void fill(Pegrow x, int row, int... names) {
        for (int name : names) {
            x.put(row, name, true, 0);
        }
    }

    static void fillUp(Pegrow x, int row) {
        while (x.size(row) < 60) {
            x.put(row, x.size(row) % 10, true, 0);
        }
    }

    /** The things of a row as they are told, in order. */
    static String row(Pegrow x, int row) {
        StringJoiner things = new StringJoiner(" ");
        for (int place = 0; place < x.size(row); place++) {
            things.add(String.valueOf(x.at(row, place)));
        }
        return things.toString();
    }

    /** All that can be asked without a refusal, but for the number of refusals. */
    static String state(Pegrow x) {
        StringJoiner all = new StringJoiner(" | ");
        for (int row = 0; row < 3; row++) {
            all.add(row(x, row));
        }
        for (int peg = 0; peg < 4; peg++) {
            all.add(x.old(peg) + " " + x.side(peg, 2));
        }
        all.add(x.count(0) + " " + x.count(5) + " " + x.count(6));
        return all.toString();
    }

    /** How many refusals there were, of the kinds 0 to 3. */
    static String refusals(Pegrow x) {
        return x.count(1) + " " + x.count(2) + " " + x.count(3) + " " + x.count(4);
    }
}
