@Section("Promise 16: answer")
final class Promise16Answer extends Sentences {
    @Says("The answer of the order that was carried out latest.")
    void theLatestOne() {
        TicketRealm x = Scene.robbedService(0, 50);
        Scene.served(x, WRITE, 0, 40, 0);
        is("of WRITE", 40, x.answer());
        is("as often as wanted", 40, x.answer());
        Scene.served(x, ADD, 0, -5, 0);
        is("of ADD", 35, x.answer());
        Scene.served(x, WRITE, 2, 7, 0);
        is("of WRITE to file 2", 7, x.answer());
        Scene.served(x, READ, 0, 99, 0);
        is("of READ", 35, x.answer());
    }

    @Says("The answer of the order that was carried out latest.")
    void noneAtFirst() {
        TicketRealm x = new TicketRealm(0);
        is("at first", 0, x.answer());
        x.serve(0, 0);
        is("after a refused call", 0, x.answer());
    }

    @Says("The answer of the order that was carried out latest.")
    void refusedOrdersDoNotCount() {
        TicketRealm x = Scene.robbedService(0, 50);
        int claim = Scene.claim(x, WRITE, 0, 40, 0);
        Scene.served(x, WRITE, 1, 50, 0);
        x.serve(0, claim);
        is("carried out", 40, x.answer());
        Scene.served(x, WRITE, 0, 41, 1);
        is("after LATE", 40, x.answer());
        Scene.served(x, WRITE, 1, 50, 0);
        is("after REPEATED", 40, x.answer());
        x.allow(2, 1, 0);
        Scene.served(x, READ, 1, 0, 0);
        is("after DENIED", 40, x.answer());
        x.serve(0, -1);
        is("after BAD_SEAL", 40, x.answer());
        Scene.served(x, 0, 1, 3, 0);
        is("after MISMATCH", 40, x.answer());
    }

    @Says("The answer of the order that was carried out latest.")
    void itStaysWhenTheClaimLeavesTheCache() {
        TicketRealm x = Scene.robbedService(0, 50);
        Scene.served(x, WRITE, 0, 40, 0);
        x.tick(1, 1);
        x.serve(-1, -1);
        is("the cache is empty", 0, x.look(2, 0));
        is("the answer stays", 40, x.answer());
    }
}
