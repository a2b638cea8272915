/** Counts and prints the answers that are not the ones due; every test has one of its own. */
final class Due {
    private String place = "";
    private int wrong = 0;

    /** What is printed before each answer that is not the one due, from now on. */
    void at(String where) {
        place = where + ": ";
    }

    void is(String what, int want, int got) {
        if (got != want) {
            fault(what + ": answered " + got + ", due is " + want);
        }
    }

    void is(String what, boolean want, boolean got) {
        if (got != want) {
            fault(what + ": answered " + got + ", due is " + want);
        }
    }

    void fault(String what) {
        wrong++;
        System.out.println(place + what);
    }

    void end() {
        System.out.println(wrong == 0 ? "all answers are as due" : wrong + " answers are not as due");
        if (wrong != 0) {
            System.exit(1);
        }
    }
}
