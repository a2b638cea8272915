@Section("Promise 1: A new object")
final class Promise01NewObject extends Sentences {
    @Says("SKEW is skew,")
    void skewIsAsGiven() {
        for (int skew : new int[] {0, 1, 2, 50, 99, 100}) {
            skewIs(skew, skew);
        }
    }

    @Says("but 0 if that is less than 0,")
    void tooSmallSkewIsNone() {
        for (int skew : new int[] {MIN, -1000, -100, -1}) {
            skewIs(0, skew);
        }
    }

    @Says("and 100 if it is more than 100.")
    void tooLargeSkewIsHundred() {
        for (int skew : new int[] {101, 1000, MAX}) {
            skewIs(100, skew);
        }
    }

    private void skewIs(int want, int skew) {
        is("skew " + skew + ": user ahead by " + want, true, isNear(skew, 2, want));
        is("skew " + skew + ": user ahead by one more", false, isNear(skew, 2, want + 1));
        is("skew " + skew + ": centre ahead by " + want, true, isNear(skew, 0, want));
        is("skew " + skew + ": centre ahead by one more", false, isNear(skew, 0, want + 1));
    }

    private static boolean isNear(int skew, int ahead, int by) {
        TicketRealm x = Scene.enrolled(skew);
        x.tick(ahead, by);
        return x.issue(2, 1, 1, x.login(2, 1), 5) != LATE;
    }

    @Says("All as said above;")
    void nothingIsThereAtFirst() {
        TicketRealm x = new TicketRealm(3);
        for (int file = 0; file < 3; file++) {
            is("file " + file, 0, x.look(0, file));
        }
        for (int p = 0; p < 6; p++) {
            is("clock " + p, 0, x.look(1, p));
            is("own key of " + p, UNKNOWN, x.steal(p));
            is("in the book " + p, false, x.remove(p));
        }
        for (int u = 2; u < 6; u++) {
            is("request of " + u, 0, x.look(3, u));
            is("credential for 0 of " + u, UNKNOWN, x.look(4, u));
            is("credential for 1 of " + u, UNKNOWN, x.look(5, u));
        }
        is("cache", 0, x.look(2, 0));
        is("seals", 0, x.look(6, 0));
        is("keys", 0, x.look(7, 0));
        is("answer", 0, x.answer());
        is("saved book", 0, x.crash());
    }

    @Says("the caller has stolen no key.")
    void noKeyIsStolen() {
        TicketRealm x = Scene.enrolled(0);
        for (int key = 0; key < 4; key++) {
            is("forge with key " + key, BAD_SEAL, x.forge(key, PROOF, 2, 0, 0));
        }
        int proof = x.login(2, 0);
        int ticket = x.issue(2, 0, 1, proof, 5);
        for (int seal = proof; seal <= ticket + 1; seal++) {
            is("learn from seal " + seal, BAD_SEAL, x.learn(seal));
        }
        is("forge with the session key", BAD_SEAL, x.forge(4, PROOF, 2, 0, 0));
    }

    @Says("the caller has stolen no key.")
    void objectsShareNothing() {
        TicketRealm x = Scene.robbedService(0, 9);
        x.save();
        Scene.tickAll(x, 1);
        TicketRealm y = new TicketRealm(0);
        is("keys of another object", 0, y.look(7, 0));
        is("seals of another object", 0, y.look(6, 0));
        is("clock of another object", 0, y.look(1, 1));
        is("saved book of another object", 0, y.crash());
        y.enrol(0);
        y.enrol(1);
        is("key 1 of another object is not stolen", BAD_SEAL, y.forge(1, PROOF, 2, 0, 0));
    }
}
