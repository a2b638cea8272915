@Section("Promise 3: remove")
final class Promise03Remove extends Sentences {
    @Says("Principal p is taken out of the book")
    void takesOut() {
        TicketRealm x = Scene.enrolled(0);
        int proof = x.login(2, 1);
        is("remove", true, x.remove(2));
        is("it is not in the book", UNKNOWN, x.issue(2, 1, 1, proof, 5));
        is("the others are", 3, x.save());
        is("user 3 as before", 2, x.issue(3, 1, 1, x.login(3, 1), 5));
    }

    @Says("(it keeps its own key): true;")
    void theOwnKeyStays() {
        TicketRealm x = Scene.enrolled(0);
        for (int p = 0; p < 4; p++) {
            is("remove " + p, true, x.remove(p));
        }
        for (int p = 0; p < 4; p++) {
            is("own key of " + p, p, x.steal(p));
        }
        is("it logs in by it", 0, x.login(2, 1));
        is("and the proof is under it", 0, x.learn(0));
    }

    @Says("refused with false if it is not in it.")
    void whoIsNotInTheBook() {
        TicketRealm x = Scene.enrolled(0);
        for (int p : NO_PRINCIPALS) {
            is("remove " + p, false, x.remove(p));
        }
        is("never enrolled", false, x.remove(5));
        is("remove", true, x.remove(2));
        is("remove again", false, x.remove(2));
        is("the others are still there", 3, x.save());
        x.enrol(4);
        x.crash();
        is("taken out by a crash", false, x.remove(4));
    }

    @Says("refused with false if it is not in it.")
    void theBookIsEmpty() {
        TicketRealm x = new TicketRealm(0);
        for (int p = 0; p < 6; p++) {
            is("remove " + p, false, x.remove(p));
        }
        is("still empty", 0, x.save());
    }
}
