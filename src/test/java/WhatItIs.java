@Section("What it is")
final class WhatItIs extends Sentences {
    @Says("A realm in which users prove who they are to a file service by sealed tickets that a key centre issues.")
    void theWholeWay() {
        TicketRealm x = new TicketRealm(3);
        is("key of the key centre", 0, x.enrol(0));
        is("key of the file service", 1, x.enrol(1));
        is("key of user 2", 2, x.enrol(2));
        is("rights to file 0", true, x.allow(2, 0, 3));
        is("login", 0, x.login(2, 0));
        is("issue", 1, x.issue(2, 0, 1, 0, 20));
        is("receive", true, x.receive(2, 2, 1));
        is("ask", 3, x.ask(2, 1));
        is("grant", 4, x.grant(1, 3, 1, 2, 20));
        is("receive the second", true, x.receive(2, 5, 4));
        is("order", 6, x.order(2, WRITE, 0, 40));
        is("serve", 0, x.serve(4, 6));
        is("answer", 40, x.answer());
    }

    @Says("An object is used for at most 512 calls after it has been made; what later calls answer is free.")
    void the512thCallHolds() {
        TicketRealm x = new TicketRealm(0);
        for (int call = 1; call <= 512; call++) {
            is("call " + call, call * 1000, x.tick(2, 1000));
        }
    }

    @Says("An object is used for at most 512 calls after it has been made; what later calls answer is free.")
    void serveHoldsAsThe512thCall() {
        TicketRealm x = Scene.enrolled(0);
        x.allow(2, 1, 3);
        int ticket = Scene.credential(x, 2, 1, 20);
        int claim = x.order(2, ADD, 1, 7);
        for (int call = 11; call <= 511; call++) {
            is("call " + call, 0, x.look(2, 0));
        }
        is("call 512", 0, x.serve(ticket, claim));
    }
}
