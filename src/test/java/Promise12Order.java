@Section("Promise 12: order")
final class Promise12Order extends Sentences {
    @Says("User u makes, under the session key of its credential for 1, a CLAIM with the client u, its clock, a new "
            + "serial and this order: the seal's number.")
    void makesAClaim() {
        TicketRealm x = Scene.enrolled(2);
        x.allow(2, 1, 3);
        int ticket = Scene.credential(x, 2, 1, 15);
        x.tick(2, 2);
        is("the seal's number", 3, x.order(2, WRITE, 1, -7));
        is("kind", CLAIM, x.seal(3, 0));
        is("time", 2, x.seal(3, 2));
        is("client and key", 0, x.serve(ticket, 3));
        is("operation, file and value", -7, x.look(0, 1));
        is("no request is opened", 0, x.look(3, 2));
        is("the next number", 4, x.order(2, READ, 0, 0));
    }

    @Says("under the session key of its credential for 1,")
    void theKeyIsOfTheNewestCredentialForOne() {
        TicketRealm x = Scene.enrolled(0);
        x.allow(2, 0, 1);
        int first = Scene.credential(x, 2, 1, 15);
        int second = Scene.credential(x, 2, 1, 15);
        Scene.credential(x, 2, 0, 15);
        int claim = x.order(2, READ, 0, 0);
        is("with the old ticket", BAD_SEAL, x.serve(first, claim));
        is("with the new one", 0, x.serve(second, claim));
    }

    @Says("a new serial")
    void twoLikeOrdersDiffer() {
        TicketRealm x = Scene.enrolled(0);
        x.allow(2, 0, 3);
        int ticket = Scene.credential(x, 2, 1, 15);
        int first = x.order(2, ADD, 0, 1);
        int second = x.order(2, ADD, 0, 1);
        is("the first", 0, x.serve(ticket, first));
        is("the second", 0, x.serve(ticket, second));
        is("the first again", REPEATED, x.serve(ticket, first));
        is("added twice", 2, x.look(0, 0));
    }

    @Says("and this order")
    void anyValueIsTaken() {
        TicketRealm x = Scene.enrolled(0);
        int ticket = Scene.credential(x, 2, 1, 15);
        for (int file = 0; file < 3; file++) {
            x.allow(2, file, 2);
            for (int value : new int[] {MIN, -1, 1, MAX}) {
                is("WRITE " + value, 0, x.serve(ticket, x.order(2, WRITE, file, value)));
                is("file " + file, value, x.look(0, file));
            }
        }
    }

    @Says("UNKNOWN: u is no user")
    void noSuchUser() {
        TicketRealm x = Scene.enrolled(0);
        Scene.credential(x, 2, 1, 5);
        for (int u : NO_USERS) {
            is("order of " + u, UNKNOWN, x.order(u, READ, 0, 0));
        }
        is("no seal was made", 3, x.look(6, 0));
    }

    @Says("or has no credential for 1,")
    void noCredentialForOne() {
        TicketRealm x = Scene.enrolled(0);
        is("no credential", UNKNOWN, x.order(2, READ, 0, 0));
        Scene.credential(x, 2, 0, 5);
        is("one for 0 alone", UNKNOWN, x.order(2, READ, 0, 0));
        x.login(2, 1);
        is("an open request alone", UNKNOWN, x.order(2, READ, 0, 0));
        Scene.credential(x, 2, 1, 5);
        is("that of another", UNKNOWN, x.order(3, READ, 0, 0));
        is("the own one", 7, x.order(2, READ, 0, 0));
    }

    @Says("operation is not 1 .. 3,")
    void noSuchOperation() {
        TicketRealm x = Scene.enrolled(0);
        Scene.credential(x, 2, 1, 5);
        for (int operation : new int[] {MIN, -1, 0, 4, MAX}) {
            is("operation " + operation, UNKNOWN, x.order(2, operation, 0, 0));
        }
        is("no seal was made", 3, x.look(6, 0));
        for (int operation = 1; operation <= 3; operation++) {
            is("operation " + operation, 2 + operation, x.order(2, operation, 0, 0));
        }
    }

    @Says("or there is no such file.")
    void noSuchFile() {
        TicketRealm x = Scene.enrolled(0);
        Scene.credential(x, 2, 1, 5);
        for (int file : NO_FILES) {
            is("file " + file, UNKNOWN, x.order(2, READ, file, 0));
        }
        is("no seal was made", 3, x.look(6, 0));
        for (int file = 0; file < 3; file++) {
            is("file " + file, 3 + file, x.order(2, READ, file, 0));
        }
    }

    @Says("FULL.")
    void fullWithAllSealsMade() {
        TicketRealm x = Scene.enrolled(0);
        Scene.credential(x, 2, 1, 5);
        Scene.makeSeals(x, MOST_SEALS - 1);
        is("the last seal", MOST_SEALS - 1, x.order(2, READ, 0, 0));
        is("one more", FULL, x.order(2, READ, 0, 0));
        is("seals", MOST_SEALS, x.look(6, 0));
        is("the last one shows", CLAIM, x.seal(MOST_SEALS - 1, 0));
    }

    @Says("FULL.")
    void noRoomForKeysIsNeeded() {
        TicketRealm x = Scene.enrolled(0);
        Scene.credential(x, 2, 1, 5);
        Scene.makeKeys(x, MOST_KEYS);
        is("order with all keys made", 3, x.order(2, READ, 0, 0));
    }
}
