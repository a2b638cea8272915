/** Steps that many tests begin with; the answers of the steps themselves are tested elsewhere. */
final class Scene {
    private Scene() {
    }

    /** Principals 0 to 3 have the keys 0 to 3. */
    static TicketRealm enrolled(int skew) {
        TicketRealm x = new TicketRealm(skew);
        for (int p = 0; p < 4; p++) {
            x.enrol(p);
        }
        return x;
    }

    /** Logs u in and has a ticket issued, which u receives: the ticket's number. */
    static int credential(TicketRealm x, int u, int target, int life) {
        int proof = x.login(u, target);
        int ticket = x.issue(u, target, x.look(3, u), proof, life);
        x.receive(u, ticket + 1, ticket);
        return ticket;
    }

    static int endOfIssue(TicketRealm x, int u, int target, int life) {
        int proof = x.login(u, target);
        return x.seal(x.issue(u, target, x.look(3, u), proof, life), 1);
    }

    /** Has a further ticket granted by the credential for 0, which u receives: the ticket's number. */
    static int further(TicketRealm x, int u, int target, int life) {
        int old = x.look(4, u);
        int claim = x.ask(u, target);
        int ticket = x.grant(old, claim, target, x.look(3, u), life);
        x.receive(u, ticket + 1, ticket);
        return ticket;
    }

    /** Gets u a ticket for the file service and hands in one order: what the service says. */
    static int firstOrder(TicketRealm x, int u, int operation, int file, int value) {
        int ticket = credential(x, u, 1, 500);
        return x.serve(ticket, x.order(u, operation, file, value));
    }

    /** The clocks of the centre, the service and the users grow together. */
    static void tickAll(TicketRealm x, int n) {
        for (int p = 0; p < 6; p++) {
            x.tick(p, n);
        }
    }

    /** Logs user 3 in until there are that many seals. */
    static void makeSeals(TicketRealm x, int count) {
        for (int i = x.look(6, 0); i < count; i++) {
            x.login(3, 0);
        }
    }

    /** Enrols user 5 until there are that many keys. */
    static void makeKeys(TicketRealm x, int count) {
        for (int i = x.look(7, 0); i < count; i++) {
            x.enrol(5);
        }
    }

    /**
     * The key 1 of the service is stolen; user 2 has all rights; seal 0 is a forged ticket of user 2
     * for the service, with key 1 as session key too.
     */
    static TicketRealm robbedService(int skew, int end) {
        TicketRealm x = enrolled(skew);
        for (int file = 0; file < 3; file++) {
            x.allow(2, file, 3);
        }
        x.steal(1);
        x.forge(1, 2, 2, 1, end);
        return x;
    }

    /** What forge() takes as a for a CLAIM with this order. */
    static int coded(int operation, int file, int value) {
        return operation | file << 2 | value << 4;
    }

    /** In a robbed service: a forged CLAIM of user 2. */
    static int claim(TicketRealm x, int operation, int file, int value, int time) {
        return x.forge(1, 4, 2, coded(operation, file, value), time);
    }

    /** In a robbed service: a forged CLAIM of user 2 is handed in with ticket 0. */
    static int served(TicketRealm x, int operation, int file, int value, int time) {
        return x.serve(0, claim(x, operation, file, value, time));
    }
}
