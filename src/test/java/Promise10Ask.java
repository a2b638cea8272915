@Section("Promise 10: ask")
final class Promise10Ask extends Sentences {
    @Says("User u requests a ticket for a target by its credential for 0: its open request has a new nonce, this "
            + "target, and the session key of that credential.")
    void opensARequest() {
        for (int target = 0; target < 2; target++) {
            TicketRealm x = Scene.enrolled(0);
            int first = Scene.credential(x, 2, 0, 9);
            int claim = x.ask(2, target);
            is("nonce", 2, x.look(3, 2));
            int other = x.grant(first, claim, 1 - target, 2, 5);
            is("another target", false, x.receive(2, other + 1, other));
            int ticket = x.grant(first, claim, target, 2, 5);
            is("this target", true, x.receive(2, ticket + 1, ticket));
            is("credential", ticket, x.look(4 + target, 2));
        }
    }

    @Says("has a new nonce, this target, and the session key of that credential.")
    void takesThePlaceOfTheRequestBefore() {
        TicketRealm x = Scene.enrolled(0);
        int first = Scene.credential(x, 2, 0, 9);
        int proof = x.login(2, 1);
        int issued = x.issue(2, 1, 2, proof, 5);
        int claim = x.ask(2, 1);
        is("the new nonce", 3, x.look(3, 2));
        is("what was issued", false, x.receive(2, issued + 1, issued));
        int byOwnKey = x.issue(2, 1, 3, proof, 5);
        is("a part under the own key", false, x.receive(2, byOwnKey + 1, byOwnKey));
        int ticket = x.grant(first, claim, 1, 3, 5);
        is("a part under the session key", true, x.receive(2, ticket + 1, ticket));
    }

    @Says("and the session key of that credential.")
    void theRequestsKeyIsOfTheCredentialForZero() {
        TicketRealm x = Scene.enrolled(0);
        Scene.credential(x, 2, 0, 9);
        int forService = Scene.credential(x, 2, 1, 9);
        x.steal(1);
        int key = x.learn(forService);
        x.ask(2, 1);
        int part = x.forge(key, PART, 0, key, x.look(3, 2));
        is("a part under the key for 1", false, x.receive(2, part, forService));
    }

    @Says("Makes, under that key, a CLAIM with the client u, its clock, a new serial and the order 0, 0, 0: the "
            + "seal's number.")
    void makesAClaim() {
        TicketRealm x = Scene.enrolled(5);
        int first = Scene.credential(x, 2, 0, 15);
        x.tick(2, 3);
        is("the seal's number", 3, x.ask(2, 0));
        is("kind", CLAIM, x.seal(3, 0));
        is("time", 3, x.seal(3, 2));
        is("client, key and operation", 4, x.grant(first, 3, 0, 2, 5));
        is("a further one", 6, x.ask(2, 1));
    }

    @Says("Makes, under that key, a CLAIM")
    void theClaimIsUnderTheNewestCredential() {
        TicketRealm x = Scene.enrolled(0);
        int first = Scene.credential(x, 2, 0, 15);
        int second = Scene.further(x, 2, 0, 15);
        int claim = x.ask(2, 1);
        is("with the old ticket", BAD_SEAL, x.grant(first, claim, 1, 3, 5));
        is("with the new one", claim + 1, x.grant(second, claim, 1, 3, 5));
    }

    @Says("and the order 0, 0, 0")
    void theServiceDoesNotTakeTheClaim() {
        TicketRealm x = Scene.robbedService(0, 9);
        x.steal(0);
        int key = x.learn(Scene.credential(x, 2, 0, 9));
        int ticket = x.forge(1, TICKET, 2, key, 9);
        is("operation 0", MISMATCH, x.serve(ticket, x.ask(2, 0)));
    }

    @Says("UNKNOWN: u is no user")
    void noSuchUser() {
        TicketRealm x = Scene.enrolled(0);
        Scene.credential(x, 2, 0, 5);
        for (int u : NO_USERS) {
            is("ask " + u, UNKNOWN, x.ask(u, 0));
        }
        is("no seal was made", 3, x.look(6, 0));
    }

    @Says("or has no credential for 0,")
    void noCredentialForZero() {
        TicketRealm x = Scene.enrolled(0);
        is("no credential", UNKNOWN, x.ask(2, 0));
        Scene.credential(x, 2, 1, 5);
        is("one for 1 alone", UNKNOWN, x.ask(2, 1));
        is("no request is open", 0, x.look(3, 2));
        Scene.credential(x, 2, 0, 5);
        is("that of another", UNKNOWN, x.ask(3, 0));
        is("the own one", 6, x.ask(2, 0));
        is("no nonce was used", 3, x.look(3, 2));
    }

    @Says("or has no credential for 0,")
    void anOpenRequestIsNoCredential() {
        TicketRealm x = Scene.enrolled(0);
        x.issue(2, 0, 1, x.login(2, 0), 5);
        is("not received yet", UNKNOWN, x.ask(2, 0));
        is("the request is as before", 1, x.look(3, 2));
    }

    @Says("or target is not 0 or 1.")
    void noSuchTarget() {
        TicketRealm x = Scene.enrolled(0);
        Scene.credential(x, 2, 0, 5);
        for (int target : NO_TARGETS) {
            is("ask for " + target, UNKNOWN, x.ask(2, target));
        }
        is("no seal was made", 3, x.look(6, 0));
        is("no request is open", 0, x.look(3, 2));
        x.ask(2, 0);
        is("no nonce was used", 2, x.look(3, 2));
    }

    @Says("FULL.")
    void fullWithAllSealsMade() {
        TicketRealm x = Scene.enrolled(0);
        Scene.credential(x, 2, 0, 5);
        Scene.makeSeals(x, MOST_SEALS - 1);
        is("the last seal", MOST_SEALS - 1, x.ask(2, 1));
        int nonce = x.look(3, 2);
        is("one more", FULL, x.ask(2, 0));
        is("the request is as before", nonce, x.look(3, 2));
        is("seals", MOST_SEALS, x.look(6, 0));
    }

    @Says("FULL.")
    void noRoomForKeysIsNeeded() {
        TicketRealm x = Scene.enrolled(0);
        Scene.credential(x, 2, 0, 5);
        Scene.makeKeys(x, MOST_KEYS);
        is("ask with all keys made", 3, x.ask(2, 1));
    }
}
