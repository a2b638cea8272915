/** Promises 20 and 21: what shows of seals and of the realm. */
public final class ShowTest {
    private static final Due due = new Due();
    private static final int[] NO_USERS = {Integer.MIN_VALUE, -1, 0, 1, 6, Integer.MAX_VALUE};

    public static void main(String[] args) {
        sealShowsKindEndTime();
        sealRefuses();
        lookAtFilesAndClocks();
        lookAtUsers();
        lookAtCounts();
        lookRefuses();
        due.end();
    }

    private static void sealShowsKindEndTime() {
        TicketRealm x = Scene.enrolled(0);
        Scene.tickAll(x, 3);
        Scene.credential(x, 2, 1, 9);
        x.order(2, 1, 0, 0);
        int[][] rows = {{1, 0, 3}, {2, 12, 0}, {3, 12, 0}, {4, 0, 3}};
        for (int seal = 0; seal < rows.length; seal++) {
            for (int what = 0; what < 3; what++) {
                due.is("seal(" + seal + ", " + what + ")", rows[seal][what], x.seal(seal, what));
            }
        }
    }

    private static void sealRefuses() {
        TicketRealm x = Scene.enrolled(0);
        due.is("no seals yet", TicketRealm.UNKNOWN, x.seal(0, 0));
        x.login(2, 0);
        for (int what : new int[] {Integer.MIN_VALUE, -1, 3, Integer.MAX_VALUE}) {
            due.is("what " + what, TicketRealm.UNKNOWN, x.seal(0, what));
        }
        for (int seal : new int[] {Integer.MIN_VALUE, -1, 1, 149, 150, Integer.MAX_VALUE}) {
            for (int what = 0; what < 3; what++) {
                due.is("seal " + seal, TicketRealm.UNKNOWN, x.seal(seal, what));
            }
        }
    }

    private static void lookAtFilesAndClocks() {
        TicketRealm x = Scene.enrolled(0);
        int ticket = Scene.credential(x, 2, 1, 9);
        for (int file = 0; file < 3; file++) {
            x.allow(2, file, 2);
            x.serve(ticket, x.order(2, 2, file, 70 + file));
        }
        for (int file = 0; file < 3; file++) {
            due.is("file " + file, 70 + file, x.look(0, file));
        }
        for (int p = 0; p < 6; p++) {
            x.tick(p, 10 + p);
        }
        for (int p = 0; p < 6; p++) {
            due.is("clock " + p, 10 + p, x.look(1, p));
        }
    }

    private static void lookAtUsers() {
        TicketRealm x = new TicketRealm(0);
        for (int p = 0; p < 6; p++) {
            x.enrol(p);
        }
        for (int u = 2; u < 6; u++) {
            int first = Scene.credential(x, u, 0, 9);
            due.is("ticket for 0 of " + u, first, x.look(4, u));
            due.is("none for 1 of " + u, TicketRealm.UNKNOWN, x.look(5, u));
            int second = Scene.credential(x, u, 1, 9);
            due.is("ticket for 0 of " + u, first, x.look(4, u));
            due.is("ticket for 1 of " + u, second, x.look(5, u));
            due.is("no request of " + u, 0, x.look(3, u));
        }
        for (int u = 2; u < 6; u++) {
            x.login(u, 0);
        }
        for (int u = 2; u < 6; u++) {
            due.is("nonce of " + u, 9 + u - 2, x.look(3, u));
        }
    }

    private static void lookAtCounts() {
        TicketRealm x = Scene.enrolled(0);
        x.allow(2, 0, 1);
        int ticket = Scene.credential(x, 2, 1, 9);
        x.serve(ticket, x.order(2, 1, 0, 0));
        x.serve(ticket, x.order(2, 1, 0, 0));
        for (int i : new int[] {Integer.MIN_VALUE, -1, 0, 6, Integer.MAX_VALUE}) {
            due.is("cache", 2, x.look(2, i));
            due.is("seals", 5, x.look(6, i));
            due.is("keys", 5, x.look(7, i));
        }
    }

    private static void lookRefuses() {
        TicketRealm x = Scene.enrolled(0);
        Scene.credential(x, 2, 0, 9);
        for (int what : new int[] {Integer.MIN_VALUE, -1, 8, Integer.MAX_VALUE}) {
            due.is("what " + what, TicketRealm.UNKNOWN, x.look(what, 2));
        }
        for (int file : new int[] {Integer.MIN_VALUE, -1, 3, Integer.MAX_VALUE}) {
            due.is("file " + file, TicketRealm.UNKNOWN, x.look(0, file));
        }
        for (int p : new int[] {Integer.MIN_VALUE, -1, 6, Integer.MAX_VALUE}) {
            due.is("clock " + p, TicketRealm.UNKNOWN, x.look(1, p));
        }
        for (int u : NO_USERS) {
            for (int what = 3; what <= 5; what++) {
                due.is("look(" + what + ", " + u + ")", TicketRealm.UNKNOWN, x.look(what, u));
            }
        }
    }
}
