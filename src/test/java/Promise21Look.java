@Section("Promise 21: look")
final class Promise21Look extends Sentences {
    private static final int[] ODD = {MIN, -1, 0, 2, 6, MAX};

    @Says("what = 0: the value of file i;")
    void files() {
        TicketRealm x = Scene.robbedService(0, 9);
        for (int file = 0; file < 3; file++) {
            Scene.served(x, WRITE, file, 70 + file, 0);
        }
        for (int file = 0; file < 3; file++) {
            is("file " + file, 70 + file, x.look(0, file));
        }
    }

    @Says("1: the clock of principal i;")
    void clocks() {
        TicketRealm x = new TicketRealm(0);
        for (int p = 0; p < 6; p++) {
            x.tick(p, 10 + p);
        }
        for (int p = 0; p < 6; p++) {
            is("clock " + p, 10 + p, x.look(1, p));
        }
    }

    @Says("2: how many claims are in the cache (i is not looked at);")
    void cache() {
        TicketRealm x = Scene.robbedService(0, 9);
        for (int count = 0; count <= MOST_CACHED; count++) {
            for (int i : ODD) {
                is("look(2, " + i + ")", count, x.look(2, i));
            }
            Scene.served(x, ADD, 0, count, 0);
        }
        x.tick(1, 1);
        is("time alone takes none out", MOST_CACHED, x.look(2, 0));
    }

    @Says("3: the nonce of user i's open request, 0 if it has none;")
    void requests() {
        TicketRealm x = new TicketRealm(0);
        for (int p = 0; p < 6; p++) {
            x.enrol(p);
        }
        for (int u = 2; u < 6; u++) {
            is("none of " + u, 0, x.look(3, u));
            x.login(u, 0);
            is("nonce of " + u, u - 1, x.look(3, u));
        }
        x.issue(2, 0, 1, 0, 9);
        x.receive(2, 5, 4);
        is("none any more", 0, x.look(3, 2));
        is("of the others as before", 2, x.look(3, 3));
    }

    @Says("4, 5: the ticket in user i's credential for 0, 1;")
    void tickets() {
        TicketRealm x = new TicketRealm(0);
        for (int p = 0; p < 6; p++) {
            x.enrol(p);
        }
        for (int u = 2; u < 6; u++) {
            int first = Scene.credential(x, u, 0, 9);
            int second = Scene.credential(x, u, 1, 9);
            is("for 0 of " + u, first, x.look(4, u));
            is("for 1 of " + u, second, x.look(5, u));
        }
    }

    @Says("4, 5: the ticket in user i's credential for 0, 1;")
    void theTicketMayBeSealZero() {
        TicketRealm x = Scene.enrolled(0);
        for (int target = 0; target < 2; target++) {
            int ticket = x.issue(2, target, target + 1, x.login(2, target), 9);
            x.receive(2, ticket + 1, 0);
            is("for " + target, 0, x.look(4 + target, 2));
        }
    }

    @Says("6: how many seals there are,")
    void seals() {
        TicketRealm x = Scene.enrolled(0);
        for (int count = 0; count <= MOST_SEALS; count++) {
            is("seals", count, x.look(6, ODD[count % ODD.length]));
            x.login(2, 0);
        }
        is("never more", MOST_SEALS, x.look(6, 0));
    }

    @Says("7: how many keys (i is not looked at).")
    void keys() {
        TicketRealm x = new TicketRealm(0);
        for (int count = 0; count <= MOST_KEYS; count++) {
            is("keys", count, x.look(7, ODD[count % ODD.length]));
            x.enrol(2);
        }
        is("never more", MOST_KEYS, x.look(7, 0));
    }

    @Says("UNKNOWN if there is no such file,")
    void noSuchFile() {
        TicketRealm x = new TicketRealm(0);
        for (int file : NO_FILES) {
            is("file " + file, UNKNOWN, x.look(0, file));
        }
    }

    @Says("principal,")
    void noSuchPrincipal() {
        TicketRealm x = new TicketRealm(0);
        for (int p : NO_PRINCIPALS) {
            is("clock " + p, UNKNOWN, x.look(1, p));
        }
    }

    @Says("user,")
    void noSuchUser() {
        TicketRealm x = Scene.enrolled(0);
        for (int u : NO_USERS) {
            for (int what = 3; what <= 5; what++) {
                is("look(" + what + ", " + u + ")", UNKNOWN, x.look(what, u));
            }
        }
    }

    @Says("credential,")
    void noSuchCredential() {
        TicketRealm x = Scene.enrolled(0);
        for (int u = 2; u < 6; u++) {
            is("for 0 of " + u, UNKNOWN, x.look(4, u));
            is("for 1 of " + u, UNKNOWN, x.look(5, u));
        }
        Scene.credential(x, 2, 0, 9);
        is("none for 1", UNKNOWN, x.look(5, 2));
        Scene.credential(x, 3, 1, 9);
        is("none for 0", UNKNOWN, x.look(4, 3));
    }

    @Says("or what is none of these.")
    void noSuchWhat() {
        TicketRealm x = Scene.enrolled(0);
        Scene.credential(x, 2, 0, 9);
        for (int what : new int[] {MIN, -1, 8, MAX}) {
            for (int i = 0; i < 6; i++) {
                is("look(" + what + ", " + i + ")", UNKNOWN, x.look(what, i));
            }
        }
    }
}
