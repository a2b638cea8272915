@Section("Promise 7: crash")
final class Promise07Crash extends Sentences {
    @Says("The key centre crashes: the book becomes the saved one.")
    void nothingSavedIsAnEmptyBook() {
        TicketRealm x = Scene.enrolled(0);
        is("crash", 0, x.crash());
        for (int p = 0; p < 4; p++) {
            is("not in the book " + p, false, x.remove(p));
        }
    }

    @Says("The key centre crashes: the book becomes the saved one.")
    void keysLimitsAndRightsComeBack() {
        TicketRealm x = Scene.enrolled(0);
        x.limit(2, 7);
        x.allow(2, 1, 2);
        int proof = x.login(2, 1);
        x.save();
        x.enrol(2);
        x.limit(2, 9);
        x.allow(2, 1, 1);
        x.allow(2, 0, 3);
        is("crash", 4, x.crash());
        int ticket = x.issue(2, 1, 1, proof, 500);
        is("the saved key opens the proof", 1, ticket);
        is("the saved limit", 7, x.seal(ticket, 1));
        x.receive(2, ticket + 1, ticket);
        is("the saved right", 0, x.serve(ticket, x.order(2, WRITE, 1, 5)));
        is("no later right", DENIED, x.serve(ticket, x.order(2, READ, 1, 0)));
        is("no later right to file 0", DENIED, x.serve(ticket, x.order(2, READ, 0, 0)));
        is("the own key is not the book's", BAD_SEAL, x.issue(2, 1, 2, x.login(2, 1), 5));
    }

    @Says("The key centre crashes: the book becomes the saved one.")
    void removedOnesComeBackWithAllTheyHad() {
        TicketRealm x = Scene.enrolled(0);
        x.limit(2, 7);
        x.allow(2, 0, 1);
        x.save();
        x.remove(2);
        x.crash();
        is("limit", 7, Scene.endOfIssue(x, 2, 1, 500));
        is("rights", 0, Scene.firstOrder(x, 2, READ, 0, 0));
    }

    @Says("The key centre crashes: the book becomes the saved one.")
    void theSavedOneOutlastsManyCrashes() {
        TicketRealm x = Scene.enrolled(0);
        x.limit(2, 7);
        x.save();
        x.crash();
        x.limit(2, 9);
        x.allow(2, 0, 3);
        x.remove(3);
        is("crash again", 4, x.crash());
        is("limit", 7, Scene.endOfIssue(x, 2, 1, 500));
        is("rights", DENIED, Scene.firstOrder(x, 2, READ, 0, 0));
    }

    @Says("The key centre crashes: the book becomes the saved one.")
    void allButTheBookIsAsBefore() {
        TicketRealm x = Scene.robbedService(0, 9);
        Scene.served(x, WRITE, 1, 5, 0);
        int first = Scene.credential(x, 2, 0, 9);
        x.login(3, 1);
        x.tick(0, 4);
        x.crash();
        is("file", 5, x.look(0, 1));
        is("answer", 5, x.answer());
        is("cache", 1, x.look(2, 0));
        is("clock", 4, x.look(1, 0));
        is("request", 2, x.look(3, 3));
        is("credential", first, x.look(4, 2));
        is("seals", 6, x.look(6, 0));
        is("keys", 5, x.look(7, 0));
        is("own key", 2, x.steal(2));
        is("stolen key", 6, x.forge(1, PROOF, 2, 0, 0));
        is("a new key has a new number", 5, x.enrol(0));
    }

    @Says("Answers how many principals are in it.")
    void answersHowMany() {
        TicketRealm x = new TicketRealm(0);
        is("none", 0, x.crash());
        for (int p = 0; p < 6; p++) {
            x.enrol(p);
            x.save();
            x.remove(p);
            is("with " + p, p + 1, x.crash());
        }
    }
}
