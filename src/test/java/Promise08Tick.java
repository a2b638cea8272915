@Section("Promise 8: tick")
final class Promise08Tick extends Sentences {
    @Says("The clock of p grows by n: the clock;")
    void growsByN() {
        TicketRealm x = new TicketRealm(0);
        for (int p = 0; p < 6; p++) {
            is("tick " + p, p + 1, x.tick(p, p + 1));
        }
        is("tick by 1", 4, x.tick(2, 1));
        is("tick by 1000", 1004, x.tick(2, 1000));
        for (int p = 0; p < 6; p++) {
            is("clock of " + p, p == 2 ? 1004 : p + 1, x.look(1, p));
        }
    }

    @Says("UNKNOWN if there is no such principal")
    void noSuchPrincipal() {
        TicketRealm x = new TicketRealm(0);
        for (int p : NO_PRINCIPALS) {
            is("tick " + p, UNKNOWN, x.tick(p, 1));
        }
        for (int p = 0; p < 6; p++) {
            is("clock of " + p, 0, x.look(1, p));
        }
    }

    @Says("or n is not 1 .. 1000.")
    void tooSmallOrTooLarge() {
        TicketRealm x = new TicketRealm(0);
        x.tick(3, 5);
        for (int n : NO_STEPS) {
            is("tick by " + n, UNKNOWN, x.tick(3, n));
            is("the clock is as before", 5, x.look(1, 3));
        }
        is("by the least", 6, x.tick(3, 1));
        is("by the greatest", 1006, x.tick(3, 1000));
    }
}
