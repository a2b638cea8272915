/** Promises 2 to 7: the key centre's book. */
public final class BookTest {
    private static final Due due = new Due();
    private static final int[] NO_PRINCIPALS = {Integer.MIN_VALUE, -1, 6, Integer.MAX_VALUE};

    public static void main(String[] args) {
        enrolNumbersKeys();
        enrolGivesOwnKeyAndBookKey();
        enrolKeepsLimitAndRights();
        enrolAfterRemoveBeginsAnew();
        enrolIsFullAtTwoHundredKeys();
        removeTakesOutOfBook();
        limitBoundsTheEnd();
        limitRefuses();
        allowRefuses();
        allowIsForOneFileAndOnePrincipal();
        saveAndCrashCount();
        crashBringsBackAll();
        savedBookStaysAfterCrash();
        due.end();
    }

    private static void enrolNumbersKeys() {
        TicketRealm x = new TicketRealm(0);
        for (int p = 0; p < 6; p++) {
            due.is("enrol " + p, p, x.enrol(p));
        }
        due.is("enrol again", 6, x.enrol(0));
        for (int p : NO_PRINCIPALS) {
            due.is("enrol " + p, TicketRealm.UNKNOWN, x.enrol(p));
        }
        due.is("keys", 7, x.look(7, 0));
        due.is("all are in the book", 6, x.save());
    }

    private static void enrolGivesOwnKeyAndBookKey() {
        TicketRealm x = Scene.enrolled(0);
        int old = x.login(2, 1);
        due.is("new key", 4, x.enrol(2));
        due.is("own key", 4, x.steal(2));
        due.is("the book has the new key too", TicketRealm.BAD_SEAL, x.issue(2, 1, 1, old, 5));
        int proof = x.login(2, 1);
        due.is("proof under the new key", 2, x.issue(2, 1, 2, proof, 5));
    }

    private static void enrolKeepsLimitAndRights() {
        TicketRealm x = Scene.enrolled(0);
        x.limit(2, 7);
        x.allow(2, 0, 1);
        x.enrol(2);
        due.is("END by the old limit", 7, Scene.endOfIssue(x, 2, 1, 500));
        due.is("rights as before", 0, Scene.firstOrder(x, 2, 1, 0, 0));
    }

    private static void enrolAfterRemoveBeginsAnew() {
        TicketRealm x = Scene.enrolled(0);
        x.limit(2, 7);
        for (int file = 0; file < 3; file++) {
            x.allow(2, file, 3);
        }
        x.remove(2);
        x.enrol(2);
        due.is("END by the first limit", 20, Scene.endOfIssue(x, 2, 1, 500));
        for (int file = 0; file < 3; file++) {
            due.is("no right to file " + file, TicketRealm.DENIED, Scene.firstOrder(x, 2, 1, file, 0));
        }
    }

    private static void enrolIsFullAtTwoHundredKeys() {
        TicketRealm x = new TicketRealm(0);
        for (int key = 0; key < 199; key++) {
            x.enrol(3);
        }
        due.is("the last key", 199, x.enrol(3));
        due.is("one more", TicketRealm.FULL, x.enrol(3));
        due.is("one more for another", TicketRealm.FULL, x.enrol(4));
        due.is("UNKNOWN comes first", TicketRealm.UNKNOWN, x.enrol(6));
        due.is("the refused one is not in the book", 1, x.save());
        due.is("nor has it a key", TicketRealm.UNKNOWN, x.steal(4));
        due.is("the own key stays", 199, x.steal(3));
        due.is("keys", 200, x.look(7, 0));
    }

    private static void removeTakesOutOfBook() {
        TicketRealm x = Scene.enrolled(0);
        due.is("remove", true, x.remove(2));
        due.is("remove again", false, x.remove(2));
        for (int p : NO_PRINCIPALS) {
            due.is("remove " + p, false, x.remove(p));
        }
        due.is("never enrolled", false, x.remove(5));
        due.is("it keeps its own key", 2, x.steal(2));
        due.is("by which it logs in", 0, x.login(2, 1));
        due.is("but it is not in the book", TicketRealm.UNKNOWN, x.issue(2, 1, 1, 0, 5));
        due.is("the others are", 3, x.save());
    }

    private static void limitBoundsTheEnd() {
        TicketRealm x = Scene.enrolled(0);
        due.is("limit 1", true, x.limit(2, 1));
        due.is("END by limit 1", 1, Scene.endOfIssue(x, 2, 1, 500));
        due.is("limit 1000", true, x.limit(2, 1000));
        due.is("limit 1000 of the target", true, x.limit(1, 1000));
        due.is("END by limits 1000", 1000, Scene.endOfIssue(x, 2, 1, 5000));
    }

    private static void limitRefuses() {
        TicketRealm x = Scene.enrolled(0);
        for (int n : new int[] {Integer.MIN_VALUE, -1, 0, 1001, Integer.MAX_VALUE}) {
            due.is("limit " + n, false, x.limit(2, n));
        }
        for (int p : NO_PRINCIPALS) {
            due.is("limit of " + p, false, x.limit(p, 5));
        }
        due.is("limit of one not in the book", false, x.limit(5, 5));
        x.remove(3);
        due.is("limit of one removed", false, x.limit(3, 5));
        due.is("the limit is as before", 20, Scene.endOfIssue(x, 2, 1, 500));
    }

    private static void allowRefuses() {
        TicketRealm x = Scene.enrolled(0);
        due.is("allow", true, x.allow(2, 0, 1));
        for (int bad : new int[] {Integer.MIN_VALUE, -1, 4, Integer.MAX_VALUE}) {
            due.is("rights " + bad, false, x.allow(2, 0, bad));
            due.is("file " + bad, false, x.allow(2, bad, 1));
        }
        due.is("file 3", false, x.allow(2, 3, 1));
        for (int p : NO_PRINCIPALS) {
            due.is("allow " + p, false, x.allow(p, 0, 1));
        }
        due.is("not in the book", false, x.allow(5, 0, 1));
        due.is("reading as before", 0, Scene.firstOrder(x, 2, 1, 0, 0));
        due.is("writing not", TicketRealm.DENIED, Scene.firstOrder(x, 2, 2, 0, 0));
    }

    private static void allowIsForOneFileAndOnePrincipal() {
        TicketRealm x = Scene.enrolled(0);
        x.allow(2, 2, 3);
        for (int file = 0; file < 3; file++) {
            int want = file == 2 ? 0 : TicketRealm.DENIED;
            due.is("2 adds to file " + file, want, Scene.firstOrder(x, 2, 3, file, 1));
            due.is("3 adds to file " + file, TicketRealm.DENIED, Scene.firstOrder(x, 3, 3, file, 1));
        }
        due.is("rights taken back", true, x.allow(2, 2, 0));
        due.is("then denied", TicketRealm.DENIED, Scene.firstOrder(x, 2, 1, 2, 0));
    }

    private static void saveAndCrashCount() {
        TicketRealm x = new TicketRealm(0);
        due.is("save nothing", 0, x.save());
        x.enrol(0);
        x.enrol(5);
        due.is("crash to nothing", 0, x.crash());
        due.is("the own key outlasts it", 1, x.steal(5));
        x.enrol(0);
        x.enrol(5);
        due.is("save two", 2, x.save());
        x.remove(5);
        due.is("crash to two", 2, x.crash());
        due.is("5 is there again", true, x.remove(5));
        due.is("save one", 1, x.save());
        due.is("crash to one", 1, x.crash());
    }

    private static void crashBringsBackAll() {
        TicketRealm x = Scene.enrolled(0);
        x.limit(2, 7);
        x.allow(2, 1, 2);
        x.save();
        x.limit(2, 9);
        x.allow(2, 1, 1);
        x.allow(2, 0, 3);
        x.tick(0, 4);
        due.is("crash", 4, x.crash());
        due.is("clocks go on", 4, x.look(1, 0));
        x.tick(2, 4);
        x.tick(1, 4);
        due.is("the saved limit", 11, Scene.endOfIssue(x, 2, 1, 500));
        due.is("the saved right", 0, Scene.firstOrder(x, 2, 2, 1, 5));
        due.is("no later right", TicketRealm.DENIED, Scene.firstOrder(x, 2, 1, 1, 5));
        due.is("no later right to file 0", TicketRealm.DENIED, Scene.firstOrder(x, 2, 1, 0, 5));
        x.enrol(2);
        int proof = x.login(2, 1);
        x.crash();
        due.is("the saved key", TicketRealm.BAD_SEAL, x.issue(2, 1, 1, proof, 5));
    }

    private static void savedBookStaysAfterCrash() {
        TicketRealm x = Scene.enrolled(0);
        x.limit(2, 7);
        x.save();
        x.crash();
        x.limit(2, 9);
        x.allow(2, 0, 3);
        x.remove(3);
        due.is("crash again", 4, x.crash());
        due.is("the saved limit", 7, Scene.endOfIssue(x, 2, 1, 500));
        due.is("the saved rights", TicketRealm.DENIED, Scene.firstOrder(x, 2, 1, 0, 0));
    }
}
