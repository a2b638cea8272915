@Section("Promise 2: enrol")
final class Promise02Enrol extends Sentences {
    @Says("Principal p gets a new key, as its own one and in the book: the key's number.")
    void answersTheNewKey() {
        TicketRealm x = new TicketRealm(0);
        for (int p = 0; p < 6; p++) {
            is("enrol " + p, p, x.enrol(p));
        }
        is("enrol 0 again", 6, x.enrol(0));
        is("keys", 7, x.look(7, 0));
        is("all are in the book", 6, x.save());
    }

    @Says("Principal p gets a new key, as its own one")
    void theNewKeyIsTheOwnOne() {
        TicketRealm x = Scene.enrolled(0);
        for (int p = 0; p < 4; p++) {
            is("own key of " + p, p, x.steal(p));
        }
        is("new key of 2", 4, x.enrol(2));
        is("own key of 2", 4, x.steal(2));
        is("own key of 3, as before", 3, x.steal(3));
    }

    @Says("and in the book: the key's number.")
    void theNewKeyIsInTheBook() {
        TicketRealm x = Scene.enrolled(0);
        int old = x.login(2, 1);
        x.enrol(2);
        is("a proof under the old key", BAD_SEAL, x.issue(2, 1, 1, old, 5));
        is("a proof under the new key", 2, x.issue(2, 1, 2, x.login(2, 1), 5));
        int first = Scene.credential(x, 2, 0, 9);
        x.enrol(0);
        is("a ticket for the old key of 0", BAD_SEAL, x.grant(first, x.ask(2, 1), 1, 9, 5));
    }

    @Says("If it was not in the book, it is now, with the limit 20")
    void theFirstLimitIsTwenty() {
        TicketRealm x = Scene.enrolled(0);
        x.limit(2, 1000);
        is("limit of the service", 20, Scene.endOfIssue(x, 2, 1, 500));
        is("limit of the key centre", 20, Scene.endOfIssue(x, 2, 0, 500));
        x.limit(0, 1000);
        x.limit(1, 1000);
        is("limit of user 3", 20, Scene.endOfIssue(x, 3, 1, 500));
        x.limit(3, 7);
        x.remove(3);
        x.enrol(3);
        is("limit of user 3 when it comes back", 20, Scene.endOfIssue(x, 3, 1, 500));
    }

    @Says("and no rights.")
    void thereAreNoRightsAtFirst() {
        TicketRealm x = Scene.enrolled(0);
        for (int file = 0; file < 3; file++) {
            is("no right to file " + file, DENIED, Scene.firstOrder(x, 2, READ, file, 0));
            x.allow(2, file, 3);
        }
        x.remove(2);
        x.enrol(2);
        for (int file = 0; file < 3; file++) {
            is("nor when it comes back, READ " + file, DENIED, Scene.firstOrder(x, 2, READ, file, 0));
            is("nor when it comes back, WRITE " + file, DENIED, Scene.firstOrder(x, 2, WRITE, file, 0));
        }
    }

    @Says("If it was not in the book, it is now, with the limit 20 and no rights.")
    void whoIsInTheBookKeepsLimitAndRights() {
        TicketRealm x = Scene.enrolled(0);
        x.limit(2, 7);
        x.allow(2, 0, 1);
        x.enrol(2);
        is("limit", 7, Scene.endOfIssue(x, 2, 1, 500));
        is("reading", 0, Scene.firstOrder(x, 2, READ, 0, 0));
        is("no writing", DENIED, Scene.firstOrder(x, 2, WRITE, 0, 0));
    }

    @Says("If it was not in the book, it is now, with the limit 20 and no rights.")
    void afterACrashThatTookItOutItBeginsAnew() {
        TicketRealm x = Scene.enrolled(0);
        x.remove(2);
        x.save();
        x.enrol(2);
        x.limit(2, 7);
        x.allow(2, 0, 3);
        x.crash();
        x.enrol(2);
        is("limit", 20, Scene.endOfIssue(x, 2, 1, 500));
        is("no rights", DENIED, Scene.firstOrder(x, 2, READ, 0, 0));
    }

    @Says("UNKNOWN: there is no such principal.")
    void noSuchPrincipal() {
        TicketRealm x = new TicketRealm(0);
        for (int p : NO_PRINCIPALS) {
            is("enrol " + p, UNKNOWN, x.enrol(p));
        }
        is("no key was made", 0, x.look(7, 0));
        is("nobody is in the book", 0, x.save());
    }

    @Says("FULL.")
    void fullWithTwoHundredKeys() {
        TicketRealm x = new TicketRealm(0);
        for (int key = 0; key < MOST_KEYS; key++) {
            is("key " + key, key, x.enrol(3));
        }
        is("one more", FULL, x.enrol(3));
        is("one more for another", FULL, x.enrol(4));
        is("keys", MOST_KEYS, x.look(7, 0));
        is("the refused one is not in the book", 1, x.save());
        is("nor has it a key", UNKNOWN, x.steal(4));
        is("the own key is as before", MOST_KEYS - 1, x.steal(3));
    }

    @Says("FULL.")
    void fullWithSessionKeysToo() {
        TicketRealm x = Scene.enrolled(0);
        Scene.makeKeys(x, MOST_KEYS - 1);
        int proof = x.login(2, 1);
        is("the last key is a session key", 1, x.issue(2, 1, 1, proof, 5));
        is("one more", FULL, x.enrol(2));
        is("the key in the book still opens the proof", FULL, x.issue(2, 1, 1, proof, 5));
    }

    @Says("FULL.")
    void fullNeedsNoRoomForSeals() {
        TicketRealm x = Scene.enrolled(0);
        Scene.makeSeals(x, MOST_SEALS);
        is("a key with all seals made", 4, x.enrol(4));
    }
}
