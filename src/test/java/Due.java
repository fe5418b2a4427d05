/** Counts the answers of one test that are not as due, and ends it with 1 if there is one. */
final class Due {
    private int asked = 0;
    private int wrong = 0;

    void is(String call, long want, long got) {
        asked++;
        if (want != got) {
            wrong++;
            System.out.println(call + " answered " + got + ", due is " + want);
        }
    }

    void says(String call, String want, String got) {
        asked++;
        if (!want.equals(got)) {
            wrong++;
            System.out.println(call + " told \"" + got + "\", due is \"" + want + "\"");
        }
    }

    void end() {
        System.out.println(asked + " answers, " + wrong + " not as due");
        if (wrong != 0) {
            System.exit(1);
        }
    }
}
