@Section("Promise 11: receive")
final class Promise11Receive extends Sentences {
    /** User 2 has requested a ticket for 1: proof 0, ticket 1, its part 2. */
    private static TicketRealm issued() {
        TicketRealm x = Scene.enrolled(0);
        x.issue(2, 1, 1, x.login(2, 1), 5);
        return x;
    }

    @Says("User u is handed an answer: a PART and a ticket (which it can't look into, and does not check but for its "
            + "being a seal).")
    void anySealIsTakenAsTicket() {
        for (int ticket = 0; ticket < 3; ticket++) {
            TicketRealm x = issued();
            is("seal " + ticket, true, x.receive(2, 2, ticket));
            is("is the ticket", ticket, x.look(5, 2));
        }
    }

    @Says("Its credential for the request's target becomes: that ticket, and the session key and END of the PART;")
    void theCredentialIsForTheRequestsTarget() {
        TicketRealm x = Scene.enrolled(0);
        int first = Scene.credential(x, 2, 0, 5);
        is("for 0", first, x.look(4, 2));
        is("none for 1", UNKNOWN, x.look(5, 2));
        int second = Scene.credential(x, 2, 1, 5);
        is("for 1", second, x.look(5, 2));
        is("that for 0 is as before", first, x.look(4, 2));
        int third = Scene.credential(x, 2, 0, 5);
        is("a new one for 0", third, x.look(4, 2));
        is("that for 1 is as before", second, x.look(5, 2));
        is("none of another user", UNKNOWN, x.look(4, 3));
    }

    @Says("that ticket, and the session key and END of the PART;")
    void theSessionKeyIsOfThePartNotOfTheTicket() {
        TicketRealm x = Scene.enrolled(0);
        x.allow(2, 0, 1);
        int other = Scene.credential(x, 2, 1, 5);
        int ticket = x.issue(2, 1, 2, x.login(2, 1), 5);
        is("the part with another ticket", true, x.receive(2, ticket + 1, other));
        int claim = x.order(2, READ, 0, 0);
        is("the key is not that of the ticket", BAD_SEAL, x.serve(other, claim));
        is("but that of the part", 0, x.serve(ticket, claim));
    }

    @Says("it has no open request any more.")
    void theRequestIsClosed() {
        TicketRealm x = issued();
        is("open", 1, x.look(3, 2));
        is("receive", true, x.receive(2, 2, 1));
        is("closed", 0, x.look(3, 2));
        is("receive again", false, x.receive(2, 2, 1));
    }

    @Says("True;")
    void everyUserReceives() {
        TicketRealm x = new TicketRealm(0);
        for (int p = 0; p < 6; p++) {
            x.enrol(p);
        }
        for (int u = 2; u < 6; u++) {
            int ticket = x.issue(u, 0, u - 1, x.login(u, 0), 5);
            is("user " + u, true, x.receive(u, ticket + 1, ticket));
        }
    }

    @Says("refused with false if u is no user")
    void noSuchUser() {
        TicketRealm x = issued();
        for (int u : NO_USERS) {
            is("user " + u, false, x.receive(u, 2, 1));
        }
        is("another user", false, x.receive(3, 2, 1));
        is("the request is as before", 1, x.look(3, 2));
    }

    @Says("or has no open request,")
    void noOpenRequest() {
        TicketRealm x = Scene.enrolled(0);
        x.steal(2);
        int part = x.forge(2, PART, 0, 2, 0);
        is("no request yet", false, x.receive(2, part, part));
        x.login(2, 1);
        int right = x.forge(2, PART, 0, 2, 1);
        x.receive(2, right, right);
        is("none any more, the old nonce", false, x.receive(2, right, right));
        is("none any more, nonce 0", false, x.receive(2, part, part));
        is("the credential is as before", right, x.look(5, 2));
    }

    @Says("ticket is no seal's number,")
    void noSuchTicket() {
        TicketRealm x = issued();
        for (int ticket : noSeals(x)) {
            is("ticket " + ticket, false, x.receive(2, 2, ticket));
        }
        is("the request is as before", 1, x.look(3, 2));
        is("no credential", UNKNOWN, x.look(5, 2));
        is("the right one", true, x.receive(2, 2, 1));
    }

    @Says("part is no PART that the request's key opens,")
    void noSuchPart() {
        TicketRealm x = issued();
        for (int part : noSeals(x)) {
            is("part " + part, false, x.receive(2, part, 1));
        }
        is("the request is as before", 1, x.look(3, 2));
        is("no credential", UNKNOWN, x.look(5, 2));
    }

    @Says("part is no PART that the request's key opens,")
    void otherKindsAreNoPart() {
        TicketRealm x = issued();
        x.steal(2);
        is("a proof", false, x.receive(2, x.forge(2, PROOF, 2, 2, 1), 1));
        is("a ticket", false, x.receive(2, x.forge(2, TICKET, 2, 2, 1), 1));
        is("a claim", false, x.receive(2, x.forge(2, CLAIM, 2, 2, 1), 1));
        is("a part", true, x.receive(2, x.forge(2, PART, 2, 2, 1), 1));
    }

    @Says("part is no PART that the request's key opens,")
    void aPartUnderAnotherKey() {
        TicketRealm x = issued();
        x.steal(1);
        x.steal(3);
        is("under the service's key", false, x.receive(2, x.forge(1, PART, 0, 1, 1), 1));
        is("under another user's key", false, x.receive(2, x.forge(3, PART, 0, 1, 1), 1));
        x.learn(1);
        is("under the session key in it", false, x.receive(2, x.forge(4, PART, 0, 4, 1), 1));
        is("under the right key", true, x.receive(2, 2, 1));
    }

    @Says("or its nonce")
    void anotherNonce() {
        TicketRealm x = Scene.enrolled(0);
        x.login(2, 1);
        int proof = x.login(2, 1);
        for (int nonce : new int[] {MIN, -2, -1, 0, 1, 3, MAX}) {
            int ticket = x.issue(2, 1, nonce, proof, 5);
            is("nonce " + nonce, false, x.receive(2, ticket + 1, ticket));
        }
        is("the request is as before", 2, x.look(3, 2));
        int ticket = x.issue(2, 1, 2, proof, 5);
        is("nonce 2", true, x.receive(2, ticket + 1, ticket));
    }

    @Says("or target are not those of the request.")
    void anotherTarget() {
        for (int target = 0; target < 2; target++) {
            TicketRealm x = Scene.enrolled(0);
            int proof = x.login(2, target);
            int other = x.issue(2, 1 - target, 1, proof, 5);
            is("target " + (1 - target), false, x.receive(2, other + 1, other));
            is("no credential for 0", UNKNOWN, x.look(4, 2));
            is("no credential for 1", UNKNOWN, x.look(5, 2));
            is("the request is as before", 1, x.look(3, 2));
        }
    }
}
