@Section("Promise 17: steal")
final class Promise17Steal extends Sentences {
    @Says("The caller steals the own key of p: its number.")
    void answersTheOwnKey() {
        TicketRealm x = new TicketRealm(0);
        for (int p = 5; p >= 0; p--) {
            x.enrol(p);
        }
        for (int p = 0; p < 6; p++) {
            is("steal " + p, 5 - p, x.steal(p));
            is("steal again " + p, 5 - p, x.steal(p));
        }
        is("no keys are made", 6, x.look(7, 0));
    }

    @Says("The caller steals the own key of p: its number.")
    void thatKeyAloneIsStolen() {
        TicketRealm x = Scene.enrolled(0);
        x.steal(2);
        for (int key = 0; key < 4; key++) {
            is("forge with key " + key, key == 2 ? 0 : BAD_SEAL, x.forge(key, PROOF, 2, 0, 0));
        }
    }

    @Says("The caller steals the own key of p: its number.")
    void aLaterKeyIsNotStolen() {
        TicketRealm x = Scene.enrolled(0);
        x.steal(2);
        x.enrol(2);
        is("the new key", BAD_SEAL, x.forge(4, PROOF, 2, 0, 0));
        is("the old key", 0, x.forge(2, PROOF, 2, 0, 0));
        is("steal the new one", 4, x.steal(2));
        is("the new key then", 1, x.forge(4, PROOF, 2, 0, 0));
        is("the old key still", 2, x.forge(2, PROOF, 2, 0, 0));
    }

    @Says("The caller steals the own key of p: its number.")
    void theOwnKeyNotTheBooks() {
        TicketRealm x = Scene.enrolled(0);
        x.save();
        x.enrol(2);
        x.crash();
        is("after a crash", 4, x.steal(2));
        is("the key in the book is not stolen", BAD_SEAL, x.forge(2, PROOF, 2, 0, 0));
        x.remove(3);
        is("out of the book", 3, x.steal(3));
    }

    @Says("UNKNOWN: there is no such principal,")
    void noSuchPrincipal() {
        TicketRealm x = Scene.enrolled(0);
        for (int p : NO_PRINCIPALS) {
            is("steal " + p, UNKNOWN, x.steal(p));
        }
        for (int key = 0; key < 4; key++) {
            is("key " + key + " is not stolen", BAD_SEAL, x.forge(key, PROOF, 2, 0, 0));
        }
    }

    @Says("or it has none.")
    void noOwnKey() {
        TicketRealm x = new TicketRealm(0);
        for (int p = 0; p < 6; p++) {
            is("steal " + p, UNKNOWN, x.steal(p));
        }
        x.enrol(0);
        is("key 0 is not stolen by that", BAD_SEAL, x.forge(0, PROOF, 2, 0, 0));
        is("nor has another one it", UNKNOWN, x.steal(1));
    }
}
