/** For every call that has several reasons to refuse: of two that hold, the one told first is answered. */
@Section("Terms")
final class TermsReasons extends Sentences {
    @Says("What is refused is refused for the first of the reasons that hold, in the order in which they are told: "
            + "UNKNOWN, BAD_SEAL, MISMATCH, LATE, REPEATED, DENIED, FULL.")
    void enrol() {
        TicketRealm x = Scene.enrolled(0);
        Scene.makeKeys(x, MOST_KEYS);
        is("UNKNOWN and FULL", UNKNOWN, x.enrol(6));
        is("FULL alone", FULL, x.enrol(2));
    }

    @Says("What is refused is refused for the first of the reasons that hold")
    void loginAskAndOrder() {
        TicketRealm x = Scene.enrolled(0);
        Scene.credential(x, 2, 0, 9);
        Scene.credential(x, 2, 1, 9);
        Scene.makeSeals(x, MOST_SEALS);
        is("login of no user", UNKNOWN, x.login(1, 0));
        is("login without a key", UNKNOWN, x.login(4, 0));
        is("login for no target", UNKNOWN, x.login(2, 2));
        is("login, FULL alone", FULL, x.login(2, 0));
        is("ask of no user", UNKNOWN, x.ask(1, 0));
        is("ask without a credential", UNKNOWN, x.ask(3, 0));
        is("ask for no target", UNKNOWN, x.ask(2, 2));
        is("ask, FULL alone", FULL, x.ask(2, 0));
        is("order of no user", UNKNOWN, x.order(1, READ, 0, 0));
        is("order without a credential", UNKNOWN, x.order(3, READ, 0, 0));
        is("order without an operation", UNKNOWN, x.order(2, 0, 0, 0));
        is("order for no file", UNKNOWN, x.order(2, READ, 3, 0));
        is("order, FULL alone", FULL, x.order(2, READ, 0, 0));
    }

    @Says("What is refused is refused for the first of the reasons that hold")
    void issue() {
        for (int full = 0; full < 2; full++) {
            TicketRealm x = Scene.enrolled(0);
            x.steal(2);
            x.steal(3);
            int foreign = x.forge(3, PROOF, 3, 0, 50);
            int other = x.forge(2, PROOF, 3, 0, 0);
            int lateOther = x.forge(2, PROOF, 3, 0, 50);
            int late = x.forge(2, PROOF, 2, 0, 50);
            int right = x.forge(2, PROOF, 2, 0, 0);
            Scene.makeSeals(x, full * MOST_SEALS);
            for (int proof : new int[] {-1, foreign, other, lateOther, late, right}) {
                is("UNKNOWN by client, proof " + proof, UNKNOWN, x.issue(4, 1, 1, proof, 5));
                is("UNKNOWN by target, proof " + proof, UNKNOWN, x.issue(2, 2, 1, proof, 5));
                is("UNKNOWN by life, proof " + proof, UNKNOWN, x.issue(2, 1, 1, proof, 0));
            }
            is("BAD_SEAL, MISMATCH and LATE", BAD_SEAL, x.issue(2, 1, 1, foreign, 5));
            is("MISMATCH", MISMATCH, x.issue(2, 1, 1, other, 5));
            is("MISMATCH and LATE", MISMATCH, x.issue(2, 1, 1, lateOther, 5));
            is("LATE", LATE, x.issue(2, 1, 1, late, 5));
            is("FULL or none", full == 1 ? FULL : 5, x.issue(2, 1, 1, right, 5));
        }
    }

    @Says("What is refused is refused for the first of the reasons that hold")
    void grant() {
        for (int full = 0; full < 2; full++) {
            TicketRealm x = Scene.enrolled(0);
            x.steal(0);
            x.steal(1);
            int ticket = x.forge(0, TICKET, 2, 0, 9);
            int ended = x.forge(0, TICKET, 2, 0, -1);
            int endedOf4 = x.forge(0, TICKET, 4, 0, -1);
            int foreign = x.forge(1, TICKET, 3, 0, -1);
            int right = x.forge(0, CLAIM, 2, 0, 0);
            int late = x.forge(0, CLAIM, 2, 0, 50);
            int lateOther = x.forge(0, CLAIM, 3, READ, 50);
            int foreignClaim = x.forge(1, CLAIM, 3, READ, 50);
            int lateOrder = x.forge(0, CLAIM, 2, READ, 50);
            int lateOf4 = x.forge(0, CLAIM, 4, 0, 50);
            Scene.makeSeals(x, full * MOST_SEALS);
            for (int claim : new int[] {-1, foreignClaim, lateOther, late, right}) {
                is("UNKNOWN by target, claim " + claim, UNKNOWN, x.grant(ticket, claim, 2, 1, 5));
                is("UNKNOWN by life, claim " + claim, UNKNOWN, x.grant(ticket, claim, 1, 1, 0));
                is("UNKNOWN and a bad ticket, claim " + claim, UNKNOWN, x.grant(foreign, claim, 1, 1, 0));
            }
            is("BAD_SEAL by ticket, MISMATCH and LATE", BAD_SEAL, x.grant(foreign, late, 1, 1, 5));
            is("BAD_SEAL by claim, MISMATCH and LATE", BAD_SEAL, x.grant(ended, foreignClaim, 1, 1, 5));
            is("MISMATCH by client and LATE", MISMATCH, x.grant(ticket, lateOther, 1, 1, 5));
            is("MISMATCH by order and LATE", MISMATCH, x.grant(ended, lateOrder, 1, 1, 5));
            is("MISMATCH by book and LATE", MISMATCH, x.grant(endedOf4, lateOf4, 1, 1, 5));
            is("LATE by time", LATE, x.grant(ticket, late, 1, 1, 5));
            is("LATE by END", LATE, x.grant(ended, right, 1, 1, 5));
            is("FULL or none", full == 1 ? FULL : 10, x.grant(ticket, right, 1, 1, 5));
        }
    }

    @Says("What is refused is refused for the first of the reasons that hold")
    void issueAndGrantWithAllKeysMade() {
        TicketRealm x = Scene.enrolled(0);
        x.steal(0);
        x.steal(2);
        int late = x.forge(2, PROOF, 2, 0, 50);
        int ticket = x.forge(0, TICKET, 2, 0, 9);
        int lateClaim = x.forge(0, CLAIM, 2, 0, 50);
        Scene.makeKeys(x, MOST_KEYS);
        is("issue, UNKNOWN and FULL", UNKNOWN, x.issue(2, 1, 1, late, 0));
        is("issue, BAD_SEAL and FULL", BAD_SEAL, x.issue(2, 1, 1, -1, 5));
        is("issue, LATE and FULL", LATE, x.issue(2, 1, 1, late, 5));
        is("grant, UNKNOWN and FULL", UNKNOWN, x.grant(ticket, lateClaim, 1, 1, 0));
        is("grant, BAD_SEAL and FULL", BAD_SEAL, x.grant(ticket, -1, 1, 1, 5));
        is("grant, LATE and FULL", LATE, x.grant(ticket, lateClaim, 1, 1, 5));
    }

    @Says("What is refused is refused for the first of the reasons that hold")
    void serve() {
        for (int full = 0; full < 2; full++) {
            TicketRealm x = Scene.robbedService(0, 50);
            x.steal(3);
            int ended = x.forge(1, TICKET, 2, 1, -1);
            int again = Scene.claim(x, READ, 0, 0, 0);
            x.serve(0, again);
            for (int i = 1; i < MOST_CACHED * full; i++) {
                Scene.served(x, READ, 0, i, 0);
            }
            x.allow(2, 1, 0);
            int foreign = x.forge(3, CLAIM, 3, Scene.coded(0, 1, 0), 50);
            is("BAD_SEAL by ticket", BAD_SEAL, x.serve(foreign, again));
            is("BAD_SEAL by claim, MISMATCH and LATE", BAD_SEAL, x.serve(ended, foreign));
            int lateOther = x.forge(1, CLAIM, 3, Scene.coded(READ, 1, 0), 50);
            is("MISMATCH by client, LATE and DENIED", MISMATCH, x.serve(ended, lateOther));
            is("MISMATCH by order and LATE", MISMATCH, Scene.served(x, 0, 1, 0, 50));
            is("LATE by time and DENIED", LATE, Scene.served(x, READ, 1, 0, 50));
            is("LATE by END and REPEATED", LATE, x.serve(ended, again));
            is("LATE by END and DENIED", LATE, x.serve(ended, Scene.claim(x, READ, 1, 0, 0)));
            is("REPEATED", REPEATED, x.serve(0, again));
            x.allow(2, 0, 0);
            is("REPEATED and DENIED", REPEATED, x.serve(0, again));
            x.allow(2, 0, 3);
            is("DENIED", DENIED, Scene.served(x, READ, 1, 0, 0));
            is("FULL or none", full == 1 ? FULL : 0, Scene.served(x, READ, 2, 0, 0));
        }
    }

    @Says("What is refused is refused for the first of the reasons that hold")
    void serveBeforeStart() {
        TicketRealm x = Scene.enrolled(0);
        x.tick(0, 5);
        x.tick(2, 5);
        int ticket = Scene.credential(x, 2, 1, 9);
        x.steal(1);
        int key = x.learn(ticket);
        is("MISMATCH and LATE by START", MISMATCH, x.serve(ticket, x.forge(key, CLAIM, 3, READ, 0)));
        is("LATE by START and DENIED", LATE, x.serve(ticket, x.forge(key, CLAIM, 2, READ, 0)));
    }

    @Says("What is refused is refused for the first of the reasons that hold")
    void forge() {
        for (int full = 0; full < 2; full++) {
            TicketRealm x = Scene.enrolled(0);
            x.steal(2);
            Scene.makeSeals(x, full * MOST_SEALS);
            is("UNKNOWN by kind and BAD_SEAL", UNKNOWN, x.forge(3, 5, 2, 3, 0));
            is("UNKNOWN by kind", UNKNOWN, x.forge(2, 0, 2, 2, 0));
            is("UNKNOWN by client and BAD_SEAL by key", UNKNOWN, x.forge(3, PROOF, 6, 2, 0));
            is("UNKNOWN by client and BAD_SEAL by a", UNKNOWN, x.forge(2, TICKET, 6, 3, 0));
            is("UNKNOWN by client", UNKNOWN, x.forge(2, CLAIM, 6, 2, 0));
            is("BAD_SEAL by key", BAD_SEAL, x.forge(3, PROOF, 2, 2, 0));
            is("BAD_SEAL by a", BAD_SEAL, x.forge(2, PART, 6, 3, 0));
            is("FULL or none", full == 1 ? FULL : 0, x.forge(2, PART, 6, 2, 0));
        }
    }
}
