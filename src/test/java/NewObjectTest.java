/** Promise 1: a new object, and its skew. */
public final class NewObjectTest {
    private static final Due due = new Due();

    public static void main(String[] args) {
        nothingIsThereAtFirst();
        skewIsHeldBetweenBounds();
        due.end();
    }

    private static void nothingIsThereAtFirst() {
        TicketRealm x = new TicketRealm(3);
        for (int file = 0; file < 3; file++) {
            due.is("file " + file, 0, x.look(0, file));
        }
        for (int p = 0; p < 6; p++) {
            due.is("clock " + p, 0, x.look(1, p));
            due.is("own key of " + p, TicketRealm.UNKNOWN, x.steal(p));
            due.is("in the book " + p, false, x.remove(p));
        }
        for (int u = 2; u < 6; u++) {
            due.is("request of " + u, 0, x.look(3, u));
            due.is("credential for 0 of " + u, TicketRealm.UNKNOWN, x.look(4, u));
            due.is("credential for 1 of " + u, TicketRealm.UNKNOWN, x.look(5, u));
        }
        due.is("cache", 0, x.look(2, 0));
        due.is("seals", 0, x.look(6, 0));
        due.is("keys", 0, x.look(7, 0));
        due.is("answer", 0, x.answer());
        due.is("saved book", 0, x.crash());
        x.enrol(2);
        due.is("no key is stolen", TicketRealm.BAD_SEAL, x.forge(0, 1, 2, 0, 0));
    }

    private static void skewIsHeldBetweenBounds() {
        int[][] rows = {{Integer.MIN_VALUE, 0}, {-1, 0}, {0, 0}, {1, 1}, {99, 99}, {100, 100}, {101, 100},
            {Integer.MAX_VALUE, 100}};
        for (int[] row : rows) {
            due.is("skew " + row[0] + " lets pass " + row[1], true, isNear(row[0], row[1]));
            due.is("skew " + row[0] + " stops " + (row[1] + 1), false, isNear(row[0], row[1] + 1));
        }
    }

    private static boolean isNear(int skew, int difference) {
        TicketRealm x = new TicketRealm(skew);
        x.enrol(1);
        x.enrol(2);
        if (difference > 0) {
            x.tick(2, difference);
        }
        x.login(2, 1);
        return x.issue(2, 1, 1, 0, 5) != TicketRealm.LATE;
    }
}
