/** Steps that many tests begin with; the answers of the steps themselves are tested elsewhere. */
final class Scene {
    private Scene() {
    }

    /** Principals 0 to 3 have the keys 0 to 3. */
    static TicketRealm enrolled(int skew) {
        TicketRealm x = new TicketRealm(skew);
        for (int p = 0; p < 4; p++) {
            x.enrol(p);
        }
        return x;
    }

    /** Logs u in and has a ticket issued, which u receives: the ticket's number. */
    static int credential(TicketRealm x, int u, int target, int life) {
        int proof = x.login(u, target);
        int ticket = x.issue(u, target, x.look(3, u), proof, life);
        x.receive(u, ticket + 1, ticket);
        return ticket;
    }

    static int endOfIssue(TicketRealm x, int u, int target, int life) {
        int proof = x.login(u, target);
        return x.seal(x.issue(u, target, x.look(3, u), proof, life), 1);
    }

    /** Gets u a ticket for the file service and hands in one order: what the service says. */
    static int firstOrder(TicketRealm x, int u, int operation, int file, int value) {
        int ticket = credential(x, u, 1, 500);
        return x.serve(ticket, x.order(u, operation, file, value));
    }

    /** The clocks of the centre, the service and the users grow together. */
    static void tickAll(TicketRealm x, int n) {
        for (int p = 0; p < 6; p++) {
            x.tick(p, n);
        }
    }
}
