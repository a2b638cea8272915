/** What the tests of sentences have in common: the numbers of the document, and what is outside them. */
abstract class Sentences {
    static final int MIN = Integer.MIN_VALUE, MAX = Integer.MAX_VALUE;
    static final int UNKNOWN = -1, BAD_SEAL = -2, MISMATCH = -3, LATE = -4, REPEATED = -5, DENIED = -6, FULL = -7;
    static final int PROOF = 1, TICKET = 2, PART = 3, CLAIM = 4;
    static final int READ = 1, WRITE = 2, ADD = 3;
    static final int MOST_KEYS = 200, MOST_SEALS = 150, MOST_CACHED = 12;

    static final int[] NO_PRINCIPALS = {MIN, -1, 6, MAX};
    static final int[] NO_USERS = {MIN, -1, 0, 1, 6, MAX};
    static final int[] NO_TARGETS = {MIN, -1, 2, MAX};
    static final int[] NO_FILES = {MIN, -1, 3, MAX};
    /** Not 1 .. 1000. */
    static final int[] NO_STEPS = {MIN, -1, 0, 1001, MAX};

    private Due due;

    final void reportTo(Due all) {
        due = all;
    }

    final void is(String what, int want, int got) {
        due.is(what, want, got);
    }

    final void is(String what, boolean want, boolean got) {
        due.is(what, want, got);
    }

    /** Numbers that no seal of x has: far off, just below the first and just above the last. */
    static int[] noSeals(TicketRealm x) {
        return new int[] {MIN, -1, x.look(6, 0), MOST_SEALS, MAX};
    }
}
