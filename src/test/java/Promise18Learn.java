@Section("Promise 18: learn")
final class Promise18Learn extends Sentences {
    @Says("The caller opens a seal with a stolen key: from a TICKET or PART it steals the session key, whose number "
            + "is answered;")
    void fromATicket() {
        TicketRealm x = Scene.enrolled(0);
        int ticket = Scene.credential(x, 2, 1, 9);
        x.steal(1);
        is("the session key is not stolen", BAD_SEAL, x.forge(4, PROOF, 2, 0, 0));
        is("learn", 4, x.learn(ticket));
        is("learn again", 4, x.learn(ticket));
        is("the session key is stolen", 3, x.forge(4, PROOF, 2, 0, 0));
    }

    @Says("from a TICKET or PART it steals the session key, whose number is answered;")
    void fromAPart() {
        TicketRealm x = Scene.enrolled(0);
        int ticket = Scene.credential(x, 2, 1, 9);
        x.steal(2);
        is("the session key is not stolen", BAD_SEAL, x.forge(4, PROOF, 2, 0, 0));
        is("learn", 4, x.learn(ticket + 1));
        is("the session key is stolen", 3, x.forge(4, PROOF, 2, 0, 0));
    }

    @Says("from a TICKET or PART it steals the session key, whose number is answered;")
    void stepByStepThroughTheSeals() {
        TicketRealm x = Scene.enrolled(0);
        int first = Scene.credential(x, 2, 0, 9);
        int second = Scene.further(x, 2, 1, 9);
        int claim = x.order(2, READ, 0, 0);
        x.steal(2);
        is("the claim, not yet", BAD_SEAL, x.learn(claim));
        is("the second part, not yet", BAD_SEAL, x.learn(second + 1));
        is("the first part", 4, x.learn(first + 1));
        is("the second part", 5, x.learn(second + 1));
        is("the claim", 0, x.learn(claim));
    }

    @Says("from a TICKET or PART it steals the session key, whose number is answered;")
    void fromForgedOnes() {
        TicketRealm x = Scene.enrolled(0);
        x.steal(2);
        x.steal(3);
        is("a ticket", 3, x.learn(x.forge(2, TICKET, 2, 3, 9)));
        is("a part", 2, x.learn(x.forge(3, PART, 2, 2, 9)));
    }

    @Says("from others nothing, 0.")
    void fromProofsAndClaims() {
        TicketRealm x = new TicketRealm(0);
        for (int p = 5; p >= 0; p--) {
            x.enrol(p);
        }
        int proof = x.login(2, 1);
        x.steal(2);
        is("a proof", 0, x.learn(proof));
        is("a claim", 0, x.learn(x.forge(3, CLAIM, 2, 4, 4)));
        for (int key = 0; key < 6; key++) {
            is("forge with key " + key, key == 3 ? 2 : BAD_SEAL, x.forge(key, PROOF, 2, 0, 0));
        }
    }

    @Says("UNKNOWN: there is no such seal.")
    void noSuchSeal() {
        TicketRealm x = Scene.enrolled(0);
        x.steal(2);
        is("no seals at all", UNKNOWN, x.learn(0));
        x.login(2, 0);
        for (int seal : noSeals(x)) {
            is("seal " + seal, UNKNOWN, x.learn(seal));
        }
        Scene.makeSeals(x, MOST_SEALS);
        is("beyond the last of all", UNKNOWN, x.learn(MOST_SEALS));
    }

    @Says("BAD_SEAL: the key under which it was made is not stolen.")
    void theKeyIsNotStolen() {
        TicketRealm x = Scene.enrolled(0);
        int ticket = Scene.credential(x, 2, 1, 9);
        int claim = x.order(2, READ, 0, 0);
        x.steal(0);
        x.steal(3);
        for (int seal = 0; seal <= claim; seal++) {
            is("seal " + seal, BAD_SEAL, x.learn(seal));
        }
        is("the session key is not stolen by that", BAD_SEAL, x.forge(4, PROOF, 2, 0, 0));
        x.steal(1);
        is("the ticket then", 4, x.learn(ticket));
        is("the part not", BAD_SEAL, x.learn(ticket + 1));
    }
}
