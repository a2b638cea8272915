/** Promises 8 to 12: clocks, and what users do. */
public final class UserTest {
    private static final Due due = new Due();
    private static final int[] NO_USERS = {Integer.MIN_VALUE, -1, 0, 1, 6, Integer.MAX_VALUE};
    private static final int[] NO_TARGETS = {Integer.MIN_VALUE, -1, 2, Integer.MAX_VALUE};

    public static void main(String[] args) {
        tickGrowsOneClock();
        loginMakesProofAndRequest();
        loginRefuses();
        loginIsByOwnKeyNotTheBooks();
        noncesAreSharedByUsers();
        loginReplacesRequest();
        askMakesClaimAndRequest();
        askRefuses();
        receiveSetsCredential();
        receiveRefuses();
        receiveTakesAnyTicket();
        receiveTakesForgedPart();
        receiveLooksAtRequestsKey();
        orderMakesClaim();
        orderRefuses();
        serialsCountClaimsOfOneUser();
        fullAtHundredAndFiftySeals();
        theLastSealMayBeOfAnyCall();
        sealsAreMadeWithoutRoomForKeys();
        due.end();
    }

    private static void tickGrowsOneClock() {
        TicketRealm x = new TicketRealm(0);
        for (int p = 0; p < 6; p++) {
            due.is("tick " + p, p + 1, x.tick(p, p + 1));
        }
        due.is("tick 1000", 1003, x.tick(2, 1000));
        for (int n : new int[] {Integer.MIN_VALUE, -1, 0, 1001, Integer.MAX_VALUE}) {
            due.is("tick by " + n, TicketRealm.UNKNOWN, x.tick(3, n));
        }
        for (int p : new int[] {Integer.MIN_VALUE, -1, 6, Integer.MAX_VALUE}) {
            due.is("tick of " + p, TicketRealm.UNKNOWN, x.tick(p, 1));
        }
        due.is("clock 2", 1003, x.look(1, 2));
        due.is("clock 3", 4, x.look(1, 3));
    }

    private static void loginMakesProofAndRequest() {
        TicketRealm x = Scene.enrolled(0);
        x.tick(2, 9);
        due.is("login", 0, x.login(2, 1));
        due.is("kind", 1, x.seal(0, 0));
        due.is("time", 9, x.seal(0, 2));
        due.is("nonce", 1, x.look(3, 2));
        due.is("only its own request", 0, x.look(3, 3));
        x.tick(0, 9);
        due.is("client and key", 1, x.issue(2, 1, 1, 0, 5));
        due.is("target and key of the request", true, x.receive(2, 2, 1));
        due.is("credential for 1", 1, x.look(5, 2));
        due.is("none for 0", TicketRealm.UNKNOWN, x.look(4, 2));
    }

    private static void loginRefuses() {
        TicketRealm x = Scene.enrolled(0);
        for (int u : NO_USERS) {
            due.is("login " + u, TicketRealm.UNKNOWN, x.login(u, 0));
        }
        for (int target : NO_TARGETS) {
            due.is("login for " + target, TicketRealm.UNKNOWN, x.login(2, target));
        }
        due.is("login without a key", TicketRealm.UNKNOWN, x.login(4, 0));
        due.is("no seals", 0, x.look(6, 0));
        due.is("no request", 0, x.look(3, 2));
        x.login(2, 0);
        due.is("no nonce was used", 1, x.look(3, 2));
    }

    private static void loginIsByOwnKeyNotTheBooks() {
        TicketRealm x = Scene.enrolled(0);
        x.save();
        x.enrol(2);
        x.crash();
        due.is("login", 0, x.login(2, 1));
        due.is("the proof is not under the key in the book", TicketRealm.BAD_SEAL, x.issue(2, 1, 1, 0, 5));
        due.is("nor under another that is stolen", TicketRealm.BAD_SEAL, x.learn(0));
        x.steal(2);
        due.is("but under the own one", 0, x.learn(0));
        due.is("the request's key is the own one", true, x.receive(2, x.forge(4, 3, 0, 4, 1), 0));
    }

    private static void noncesAreSharedByUsers() {
        TicketRealm x = Scene.enrolled(0);
        x.login(2, 0);
        x.login(3, 0);
        due.is("nonce of 2", 1, x.look(3, 2));
        due.is("nonce of 3", 2, x.look(3, 3));
        Scene.credential(x, 2, 0, 5);
        x.ask(2, 1);
        due.is("ask counts too", 4, x.look(3, 2));
        x.login(3, 1);
        due.is("and login after it", 5, x.look(3, 3));
    }

    private static void loginReplacesRequest() {
        TicketRealm x = Scene.enrolled(0);
        int proof = x.login(2, 0);
        int old = x.issue(2, 0, 1, proof, 5);
        x.login(2, 1);
        due.is("the old nonce and target", false, x.receive(2, old + 1, old));
        int fresh = x.issue(2, 1, 2, proof, 5);
        due.is("the new ones", true, x.receive(2, fresh + 1, fresh));
        due.is("the credential is for 1", fresh, x.look(5, 2));
        due.is("and not for 0", TicketRealm.UNKNOWN, x.look(4, 2));
    }

    private static void askMakesClaimAndRequest() {
        TicketRealm x = Scene.enrolled(5);
        int ticket = Scene.credential(x, 2, 0, 15);
        x.tick(2, 3);
        int claim = x.ask(2, 0);
        due.is("ask", 3, claim);
        due.is("kind", 4, x.seal(claim, 0));
        due.is("time", 3, x.seal(claim, 2));
        due.is("nonce", 2, x.look(3, 2));
        int next = x.grant(ticket, claim, 0, 2, 5);
        due.is("grant", 4, next);
        due.is("receive", true, x.receive(2, next + 1, next));
        due.is("the credential for 0", next, x.look(4, 2));
        int second = x.ask(2, 1);
        due.is("under the new session key", TicketRealm.BAD_SEAL, x.grant(ticket, second, 1, 3, 5));
        due.is("with the new ticket", second + 1, x.grant(next, second, 1, 3, 5));
    }

    private static void askRefuses() {
        TicketRealm x = Scene.enrolled(0);
        due.is("no credential", TicketRealm.UNKNOWN, x.ask(2, 0));
        Scene.credential(x, 2, 1, 5);
        due.is("a credential for 1 alone", TicketRealm.UNKNOWN, x.ask(2, 1));
        Scene.credential(x, 2, 0, 5);
        int seals = x.look(6, 0);
        for (int u : NO_USERS) {
            due.is("ask " + u, TicketRealm.UNKNOWN, x.ask(u, 0));
        }
        for (int target : NO_TARGETS) {
            due.is("ask for " + target, TicketRealm.UNKNOWN, x.ask(2, target));
        }
        due.is("another user", TicketRealm.UNKNOWN, x.ask(3, 0));
        due.is("no seal was made", seals, x.look(6, 0));
        due.is("no request is open", 0, x.look(3, 2));
        x.ask(2, 1);
        due.is("no nonce was used", 3, x.look(3, 2));
    }

    private static void receiveSetsCredential() {
        TicketRealm x = Scene.enrolled(0);
        x.login(2, 0);
        x.issue(2, 0, 1, 0, 5);
        due.is("receive", true, x.receive(2, 2, 1));
        due.is("ticket", 1, x.look(4, 2));
        due.is("no request", 0, x.look(3, 2));
        due.is("receive again", false, x.receive(2, 2, 1));
        int second = Scene.credential(x, 2, 0, 5);
        due.is("a new ticket in place of the old", second, x.look(4, 2));
        int third = Scene.credential(x, 2, 1, 5);
        due.is("for 1", third, x.look(5, 2));
        due.is("beside that for 0", second, x.look(4, 2));
    }

    private static void receiveRefuses() {
        TicketRealm x = Scene.enrolled(0);
        due.is("no request", false, x.receive(2, 0, 0));
        int proof = x.login(2, 1);
        int ticket = x.issue(2, 1, 1, proof, 5);
        int part = ticket + 1;
        int wrongNonce = x.issue(2, 1, 2, proof, 5) + 1;
        int wrongTarget = x.issue(2, 0, 1, proof, 5) + 1;
        int proofOf3 = x.login(3, 1);
        int partOf3 = x.issue(3, 1, 1, proofOf3, 5) + 1;
        due.is("another nonce", false, x.receive(2, wrongNonce, ticket));
        due.is("another target", false, x.receive(2, wrongTarget, ticket));
        due.is("another's key", false, x.receive(2, partOf3, ticket));
        due.is("a ticket as part", false, x.receive(2, ticket, ticket));
        due.is("a proof as part", false, x.receive(2, proof, ticket));
        for (int u : NO_USERS) {
            due.is("receive by " + u, false, x.receive(u, part, ticket));
        }
        for (int bad : new int[] {Integer.MIN_VALUE, -1, x.look(6, 0), 150, Integer.MAX_VALUE}) {
            due.is("part " + bad, false, x.receive(2, bad, ticket));
            due.is("ticket " + bad, false, x.receive(2, part, bad));
        }
        due.is("the request is still open", 1, x.look(3, 2));
        due.is("no credential", TicketRealm.UNKNOWN, x.look(5, 2));
        due.is("the right ones", true, x.receive(2, part, ticket));
    }

    private static void receiveTakesAnyTicket() {
        TicketRealm x = Scene.enrolled(0);
        x.login(2, 1);
        x.issue(2, 1, 1, 0, 5);
        due.is("the proof as ticket", true, x.receive(2, 2, 0));
        due.is("is in the credential", 0, x.look(5, 2));
        x.allow(2, 0, 1);
        due.is("the session key is the part's", 0, x.serve(1, x.order(2, 1, 0, 0)));
    }

    private static void receiveTakesForgedPart() {
        TicketRealm x = Scene.enrolled(0);
        x.steal(2);
        x.login(2, 1);
        int part = x.forge(2, 3, -1, 2, 1);
        due.is("a forged part", true, x.receive(2, part, 0));
        x.login(2, 0);
        int another = x.forge(2, 3, -1, 2, 2);
        due.is("its target is 1", false, x.receive(2, another, 0));
    }

    private static void receiveLooksAtRequestsKey() {
        TicketRealm x = Scene.enrolled(0);
        int proof = x.login(2, 1);
        x.enrol(2);
        x.steal(2);
        int fresh = x.forge(4, 3, 0, 4, 1);
        due.is("a part under the new own key", false, x.receive(2, fresh, proof));
        x.login(2, 1);
        int right = x.forge(4, 3, 0, 4, 2);
        due.is("after a login with it", true, x.receive(2, right, proof));
        int first = Scene.credential(x, 2, 0, 5);
        x.ask(2, 1);
        int byOwnKey = x.forge(4, 3, 0, 4, x.look(3, 2));
        due.is("after ask the own key is not the request's", false, x.receive(2, byOwnKey, first));
    }

    private static void orderMakesClaim() {
        TicketRealm x = Scene.enrolled(2);
        x.allow(2, 1, 3);
        int ticket = Scene.credential(x, 2, 1, 15);
        x.tick(2, 2);
        int write = x.order(2, 2, 1, -7);
        due.is("order", 3, write);
        due.is("kind", 4, x.seal(write, 0));
        due.is("time", 2, x.seal(write, 2));
        due.is("serve", 0, x.serve(ticket, write));
        due.is("file 1", -7, x.look(0, 1));
        due.is("no request is opened", 0, x.look(3, 2));
        due.is("order under another session key", TicketRealm.BAD_SEAL,
                x.serve(Scene.credential(x, 2, 1, 15), write));
    }

    private static void orderRefuses() {
        TicketRealm x = Scene.enrolled(0);
        due.is("no credential", TicketRealm.UNKNOWN, x.order(2, 1, 0, 0));
        Scene.credential(x, 2, 0, 5);
        due.is("a credential for 0 alone", TicketRealm.UNKNOWN, x.order(2, 1, 0, 0));
        Scene.credential(x, 2, 1, 5);
        int seals = x.look(6, 0);
        for (int u : NO_USERS) {
            due.is("order by " + u, TicketRealm.UNKNOWN, x.order(u, 1, 0, 0));
        }
        for (int operation : new int[] {Integer.MIN_VALUE, -1, 0, 4, Integer.MAX_VALUE}) {
            due.is("operation " + operation, TicketRealm.UNKNOWN, x.order(2, operation, 0, 0));
        }
        for (int file : new int[] {Integer.MIN_VALUE, -1, 3, Integer.MAX_VALUE}) {
            due.is("file " + file, TicketRealm.UNKNOWN, x.order(2, 1, file, 0));
        }
        due.is("no seal was made", seals, x.look(6, 0));
        for (int operation = 1; operation <= 3; operation++) {
            for (int file = 0; file < 3; file++) {
                due.is("order " + operation + " of file " + file, seals++, x.order(2, operation, file, 0));
            }
        }
    }

    /** A forged claim has serial 0, so it is never taken for a user's; two of one user's differ. */
    private static void serialsCountClaimsOfOneUser() {
        TicketRealm x = Scene.enrolled(0);
        x.allow(2, 0, 3);
        int ticket = Scene.credential(x, 2, 1, 15);
        due.is("the first", 0, x.serve(ticket, x.order(2, 3, 0, 1)));
        due.is("the same order anew", 0, x.serve(ticket, x.order(2, 3, 0, 1)));
        x.steal(1);
        int session = x.learn(ticket);
        int forged = x.forge(session, 4, 2, 3 | 1 << 4, 0);
        due.is("a forged one with serial 0", 0, x.serve(ticket, forged));
        due.is("the file", 3, x.look(0, 0));
    }

    private static void fullAtHundredAndFiftySeals() {
        TicketRealm x = Scene.enrolled(0);
        Scene.credential(x, 2, 0, 5);
        Scene.credential(x, 2, 1, 5);
        while (x.look(6, 0) < 149) {
            x.login(2, 0);
        }
        int nonce = x.look(3, 2);
        due.is("the last seal", 149, x.order(2, 1, 0, 0));
        due.is("login", TicketRealm.FULL, x.login(2, 1));
        due.is("ask", TicketRealm.FULL, x.ask(2, 1));
        due.is("order", TicketRealm.FULL, x.order(2, 1, 0, 0));
        due.is("UNKNOWN before FULL in login", TicketRealm.UNKNOWN, x.login(2, 2));
        due.is("UNKNOWN before FULL in ask", TicketRealm.UNKNOWN, x.ask(2, 2));
        due.is("UNKNOWN before FULL in order", TicketRealm.UNKNOWN, x.order(2, 0, 0, 0));
        due.is("the request is as before", nonce, x.look(3, 2));
        due.is("seals", 150, x.look(6, 0));
        due.is("the last one shows", 4, x.seal(149, 0));
        due.is("a key is still made", 6, x.enrol(2));
    }

    private static void theLastSealMayBeOfAnyCall() {
        for (int row = 0; row < 3; row++) {
            TicketRealm x = Scene.enrolled(0);
            Scene.credential(x, 2, 0, 5);
            Scene.credential(x, 2, 1, 5);
            while (x.look(6, 0) < 149) {
                x.login(3, 0);
            }
            int made = row == 0 ? x.login(2, 0) : row == 1 ? x.ask(2, 0) : x.order(2, 1, 0, 0);
            due.is("the last seal in row " + row, 149, made);
        }
    }

    private static void sealsAreMadeWithoutRoomForKeys() {
        TicketRealm x = Scene.enrolled(0);
        Scene.credential(x, 2, 0, 5);
        Scene.credential(x, 2, 1, 5);
        while (x.look(7, 0) < 200) {
            x.enrol(3);
        }
        due.is("login", 6, x.login(2, 1));
        due.is("ask", 7, x.ask(2, 1));
        due.is("order", 8, x.order(2, 1, 0, 0));
        x.steal(2);
        due.is("forge", 9, x.forge(2, 1, 2, 0, 0));
    }
}
