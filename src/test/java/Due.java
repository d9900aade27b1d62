/** Counts and prints the answers that are not the ones that are due. */
final class Due {
    private int wrong;
    private int asked;
    private String about = "";

    void about(String what) {
        about = what;
    }

    void is(String call, long got, long want) {
        asked++;
        if (got != want) {
            wrong(call + " answered " + got + ", due is " + want);
        }
    }

    void is(String what, String got, String want) {
        asked++;
        if (!got.equals(want)) {
            wrong(what + " is [" + got + "], due is [" + want + "]");
        }
    }

    int wrongs() {
        return wrong;
    }

    void end() {
        System.out.println(asked + " answers asked, " + wrong + " not as due");
        if (wrong != 0) {
            System.exit(1);
        }
    }

    private void wrong(String text) {
        wrong++;
        if (wrong <= 200) {
            System.out.println(about + ": " + text);
        }
    }
}
