@Section("Promise 9: login")
final class Promise09Login extends Sentences {
    @Says("User u requests a ticket for a target by its own key: its open request (in place of any before) has a new "
            + "nonce, this target and its own key.")
    void opensARequest() {
        for (int target = 0; target < 2; target++) {
            TicketRealm x = Scene.enrolled(0);
            int proof = x.login(2, target);
            is("nonce", 1, x.look(3, 2));
            is("no request of another", 0, x.look(3, 3));
            int other = x.issue(2, 1 - target, 1, proof, 5);
            is("another target", false, x.receive(2, other + 1, other));
            int ticket = x.issue(2, target, 1, proof, 5);
            is("this target", true, x.receive(2, ticket + 1, ticket));
            is("credential", ticket, x.look(4 + target, 2));
        }
    }

    @Says("(in place of any before)")
    void takesThePlaceOfTheRequestBefore() {
        TicketRealm x = Scene.enrolled(0);
        int proof = x.login(2, 0);
        int old = x.issue(2, 0, 1, proof, 5);
        x.login(2, 1);
        is("the new nonce", 2, x.look(3, 2));
        is("the old nonce and target", false, x.receive(2, old + 1, old));
        int fresh = x.issue(2, 1, 2, proof, 5);
        is("the new ones", true, x.receive(2, fresh + 1, fresh));
        is("no request is left", 0, x.look(3, 2));
        is("the old one never comes back", false, x.receive(2, old + 1, old));
    }

    @Says("(in place of any before)")
    void takesThePlaceOfWhatWasAsked() {
        TicketRealm x = Scene.enrolled(0);
        int first = Scene.credential(x, 2, 0, 9);
        int claim = x.ask(2, 1);
        int granted = x.grant(first, claim, 1, 2, 5);
        int proof = x.login(2, 1);
        is("what was granted", false, x.receive(2, granted + 1, granted));
        int ticket = x.issue(2, 1, 3, proof, 5);
        is("what is issued", true, x.receive(2, ticket + 1, ticket));
    }

    @Says("this target and its own key.")
    void byItsOwnKeyNotTheBooks() {
        TicketRealm x = Scene.enrolled(0);
        x.save();
        x.enrol(2);
        x.crash();
        x.steal(2);
        int proof = x.login(2, 1);
        is("a part under the own key", true, x.receive(2, x.forge(4, PART, 0, 4, 1), proof));
    }

    @Says("this target and its own key.")
    void theRequestsKeyStaysWhenTheOwnKeyChanges() {
        TicketRealm x = Scene.enrolled(0);
        x.steal(2);
        int proof = x.login(2, 1);
        x.enrol(2);
        x.steal(2);
        is("a part under the new key", false, x.receive(2, x.forge(4, PART, 0, 4, 1), proof));
        is("a part under the key at login", true, x.receive(2, x.forge(2, PART, 0, 4, 1), proof));
    }

    @Says("Makes, under that key, a PROOF with the client u and its clock: the seal's number.")
    void makesAProof() {
        TicketRealm x = Scene.enrolled(0);
        x.tick(2, 9);
        is("the first seal", 0, x.login(2, 1));
        is("the second seal", 1, x.login(3, 0));
        is("kind", PROOF, x.seal(0, 0));
        is("time", 9, x.seal(0, 2));
        is("time of another's", 0, x.seal(1, 2));
        x.tick(0, 9);
        is("client and key", 2, x.issue(2, 1, 1, 0, 5));
    }

    @Says("Makes, under that key, a PROOF")
    void theProofIsUnderTheOwnKeyNotTheBooks() {
        TicketRealm x = Scene.enrolled(0);
        x.save();
        x.enrol(2);
        x.crash();
        is("login", 0, x.login(2, 1));
        is("not under the key in the book", BAD_SEAL, x.issue(2, 1, 1, 0, 5));
        is("its key is not stolen", BAD_SEAL, x.learn(0));
        x.steal(2);
        is("its key is the own one", 0, x.learn(0));
    }

    @Says("UNKNOWN: u is no user")
    void noSuchUser() {
        TicketRealm x = Scene.enrolled(0);
        for (int u : NO_USERS) {
            is("login " + u, UNKNOWN, x.login(u, 0));
        }
        is("no seal was made", 0, x.look(6, 0));
    }

    @Says("or has no own key,")
    void noOwnKey() {
        TicketRealm x = new TicketRealm(0);
        for (int u = 2; u < 6; u++) {
            is("login " + u, UNKNOWN, x.login(u, 0));
            is("no request", 0, x.look(3, u));
            x.enrol(u);
            is("with a key", u - 2, x.login(u, 0));
        }
        x.crash();
        is("out of the book it has its key still", 4, x.login(2, 0));
    }

    @Says("or target is not 0 or 1.")
    void noSuchTarget() {
        TicketRealm x = Scene.enrolled(0);
        for (int target : NO_TARGETS) {
            is("login for " + target, UNKNOWN, x.login(2, target));
        }
        is("no seal was made", 0, x.look(6, 0));
        is("no request is open", 0, x.look(3, 2));
        x.login(2, 0);
        is("no nonce was used", 1, x.look(3, 2));
    }

    @Says("or target is not 0 or 1.")
    void theTargetNeedNotBeInTheBook() {
        TicketRealm x = new TicketRealm(0);
        x.enrol(2);
        is("login for 0", 0, x.login(2, 0));
        is("login for 1", 1, x.login(2, 1));
    }

    @Says("FULL.")
    void fullWithAllSealsMade() {
        TicketRealm x = Scene.enrolled(0);
        Scene.makeSeals(x, MOST_SEALS - 1);
        is("the last seal", MOST_SEALS - 1, x.login(2, 1));
        int nonce = x.look(3, 2);
        is("one more", FULL, x.login(2, 0));
        is("the request is as before", nonce, x.look(3, 2));
        is("seals", MOST_SEALS, x.look(6, 0));
    }

    @Says("FULL.")
    void noRoomForKeysIsNeeded() {
        TicketRealm x = Scene.enrolled(0);
        Scene.makeKeys(x, MOST_KEYS);
        is("login with all keys made", 0, x.login(2, 1));
    }
}
