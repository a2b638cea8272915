/** Promises 17 to 19: the caller steals keys, and learns and forges with them. */
public final class ThiefTest {
    private static final Due due = new Due();

    public static void main(String[] args) {
        stealAnswersOwnKey();
        stealTakesOnlyTheKeyOfNow();
        learnFromEachKind();
        learnRefuses();
        forgeProof();
        forgeTicket();
        forgePart();
        forgeClaim();
        forgeClaimOrders();
        forgeUnknown();
        forgeBadSeal();
        forgeWithAllKeysMade();
        forgeFull();
        due.end();
    }

    private static void stealAnswersOwnKey() {
        TicketRealm x = Scene.enrolled(0);
        for (int p = 0; p < 4; p++) {
            due.is("steal " + p, p, x.steal(p));
            due.is("steal again " + p, p, x.steal(p));
        }
        for (int p : new int[] {Integer.MIN_VALUE, -1, 4, 5, 6, Integer.MAX_VALUE}) {
            due.is("steal " + p, TicketRealm.UNKNOWN, x.steal(p));
        }
        x.remove(2);
        due.is("one out of the book", 2, x.steal(2));
        due.is("no keys are made", 4, x.look(7, 0));
    }

    private static void stealTakesOnlyTheKeyOfNow() {
        TicketRealm x = Scene.enrolled(0);
        x.steal(2);
        x.enrol(2);
        due.is("the new key is not stolen", TicketRealm.BAD_SEAL, x.forge(4, 1, 2, 0, 0));
        due.is("the old one is", 0, x.forge(2, 1, 2, 0, 0));
        x.crash();
        due.is("and stays so", 1, x.forge(2, 1, 2, 0, 0));
        due.is("the own key after a crash", 4, x.steal(2));
        due.is("is stolen then", 2, x.forge(4, 1, 2, 0, 0));
    }

    private static void learnFromEachKind() {
        TicketRealm x = Scene.enrolled(0);
        int ticket = Scene.credential(x, 2, 1, 9);
        int claim = x.order(2, 1, 0, 0);
        due.is("claim, no key", TicketRealm.BAD_SEAL, x.learn(claim));
        x.steal(2);
        due.is("proof", 0, x.learn(0));
        due.is("a proof gives no key", TicketRealm.BAD_SEAL, x.learn(claim));
        due.is("key 0 neither", TicketRealm.BAD_SEAL, x.forge(0, 1, 2, 0, 0));
        due.is("ticket, not yet", TicketRealm.BAD_SEAL, x.learn(ticket));
        due.is("part", 4, x.learn(ticket + 1));
        due.is("claim, with the key in the part", 0, x.learn(claim));
        due.is("forge with it", claim + 1, x.forge(4, 4, 2, 1, 0));
        int second = Scene.credential(x, 3, 1, 9);
        x.steal(1);
        due.is("ticket", 5, x.learn(second));
        due.is("learn again", 5, x.learn(second));
        due.is("forge with that", true, x.forge(5, 4, 2, 1, 0) > 0);
    }

    private static void learnRefuses() {
        TicketRealm x = Scene.enrolled(0);
        x.login(2, 0);
        for (int seal : new int[] {Integer.MIN_VALUE, -1, 1, 149, 150, Integer.MAX_VALUE}) {
            due.is("learn " + seal, TicketRealm.UNKNOWN, x.learn(seal));
        }
        x.steal(3);
        due.is("another key", TicketRealm.BAD_SEAL, x.learn(0));
        x.steal(2);
        due.is("the right one", 0, x.learn(0));
    }

    private static void forgeProof() {
        TicketRealm x = Scene.enrolled(0);
        x.steal(2);
        due.is("forge", 0, x.forge(2, 1, 2, Integer.MIN_VALUE, 7));
        due.is("kind", 1, x.seal(0, 0));
        due.is("END", 0, x.seal(0, 1));
        due.is("time", 7, x.seal(0, 2));
        due.is("learn", 0, x.learn(0));
        x.tick(0, 7);
        due.is("the key centre takes it", 1, x.issue(2, 1, 1, 0, 5));
        due.is("of the key centre", 3, x.forge(2, 1, 0, 0, 7));
        due.is("holds that client", TicketRealm.MISMATCH, x.issue(2, 1, 1, 3, 5));
    }

    private static void forgeTicket() {
        TicketRealm x = Scene.enrolled(0);
        x.steal(0);
        x.steal(3);
        due.is("forge", 0, x.forge(0, 2, 2, 3, 7));
        due.is("kind", 2, x.seal(0, 0));
        due.is("END", 7, x.seal(0, 1));
        due.is("time", 0, x.seal(0, 2));
        due.is("session key", 3, x.learn(0));
        int claim = x.forge(3, 4, 2, 0, 0);
        due.is("LAST is END", 7, x.seal(x.grant(0, claim, 0, 1, 99), 1));
        x.steal(1);
        x.allow(2, 0, 1);
        int ticket = x.forge(1, 2, 2, 3, 7);
        due.is("START is 0", 0, x.serve(ticket, x.forge(3, 4, 2, 1, 0)));
    }

    private static void forgePart() {
        TicketRealm x = Scene.enrolled(0);
        x.steal(2);
        x.steal(3);
        x.login(2, 1);
        due.is("forge", 1, x.forge(2, 3, 99, 3, 1));
        due.is("kind", 3, x.seal(1, 0));
        due.is("END", 1000000, x.seal(1, 1));
        due.is("time", 0, x.seal(1, 2));
        due.is("session key", 3, x.learn(1));
        due.is("nonce and target", true, x.receive(2, 1, 0));
        int ticket = Scene.credential(x, 3, 1, 9);
        due.is("the user's claim is under the session key", TicketRealm.BAD_SEAL,
                x.serve(ticket, x.order(2, 1, 0, 0)));
        due.is("which learns from it", 0, x.learn(x.look(6, 0) - 1));
    }

    private static void forgeClaim() {
        TicketRealm x = Scene.enrolled(0);
        x.steal(1);
        due.is("forge", 0, x.forge(1, 4, 2, Integer.MAX_VALUE, -7));
        due.is("kind", 4, x.seal(0, 0));
        due.is("END", 0, x.seal(0, 1));
        due.is("time", -7, x.seal(0, 2));
        due.is("learn", 0, x.learn(0));
        for (int p = 0; p < 6; p++) {
            due.is("client " + p, p + 1, x.forge(1, 4, p, 0, 0));
        }
    }

    /** Row: a, then the file and the value that a WRITE in it is due to bring. */
    private static void forgeClaimOrders() {
        int[][] rows = {{2, 0, 0}, {2 | 1 << 2 | 9 << 4, 1, 9}, {2 | 2 << 2 | 9 << 4, 2, 9},
            {2 | 3 << 2 | 9 << 4, 0, 9}, {-2, 0, -1}, {-6, 2, -1}, {-10, 1, -1}, {-14, 0, -1},
            {Integer.MIN_VALUE | 2, 0, -134217728}, {Integer.MAX_VALUE - 1, 0, 134217727}};
        for (int[] row : rows) {
            TicketRealm x = Scene.enrolled(0);
            x.steal(1);
            x.allow(2, row[1], 2);
            int ticket = x.forge(1, 2, 2, 1, 9);
            due.is("serve " + row[0], 0, x.serve(ticket, x.forge(1, 4, 2, row[0], 0)));
            due.is("value of " + row[0], row[2], x.look(0, row[1]));
            due.is("operation 0 of " + row[0], TicketRealm.MISMATCH,
                    x.serve(ticket, x.forge(1, 4, 2, row[0] & ~3, 0)));
            due.is("operation 1 of " + row[0], TicketRealm.DENIED,
                    x.serve(ticket, x.forge(1, 4, 2, row[0] - 1, 0)));
            due.is("operation 3 of " + row[0], TicketRealm.DENIED,
                    x.serve(ticket, x.forge(1, 4, 2, row[0] + 1, 0)));
        }
    }

    private static void forgeUnknown() {
        TicketRealm x = Scene.enrolled(0);
        x.steal(2);
        for (int kind : new int[] {Integer.MIN_VALUE, -1, 0, 5, Integer.MAX_VALUE}) {
            due.is("kind " + kind, TicketRealm.UNKNOWN, x.forge(2, kind, 2, 2, 0));
            due.is("kind " + kind + " before BAD_SEAL", TicketRealm.UNKNOWN, x.forge(3, kind, 2, 2, 0));
        }
        for (int client : new int[] {Integer.MIN_VALUE, -1, 6, Integer.MAX_VALUE}) {
            due.is("proof of " + client, TicketRealm.UNKNOWN, x.forge(2, 1, client, 2, 0));
            due.is("ticket of " + client, TicketRealm.UNKNOWN, x.forge(2, 2, client, 2, 0));
            due.is("claim of " + client, TicketRealm.UNKNOWN, x.forge(2, 4, client, 2, 0));
            due.is("UNKNOWN before BAD_SEAL", TicketRealm.UNKNOWN, x.forge(3, 2, client, 3, 0));
        }
        due.is("no seals", 0, x.look(6, 0));
        due.is("part of nobody", 0, x.forge(2, 3, -1, 2, 0));
        due.is("proof of one never enrolled", 1, x.forge(2, 1, 5, 2, 0));
    }

    private static void forgeBadSeal() {
        TicketRealm x = Scene.enrolled(0);
        x.steal(2);
        for (int key : new int[] {Integer.MIN_VALUE, -1, 0, 3, 4, 199, 200, Integer.MAX_VALUE}) {
            for (int kind = 1; kind <= 4; kind++) {
                due.is("kind " + kind + " under " + key, TicketRealm.BAD_SEAL, x.forge(key, kind, 2, 2, 0));
            }
            due.is("ticket with " + key, TicketRealm.BAD_SEAL, x.forge(2, 2, 2, key, 0));
            due.is("part with " + key, TicketRealm.BAD_SEAL, x.forge(2, 3, 2, key, 0));
        }
        due.is("no seals", 0, x.look(6, 0));
        due.is("a proof's a is not looked at", 0, x.forge(2, 1, 2, 3, 0));
        due.is("a claim's a is no key", 1, x.forge(2, 4, 2, 3, 0));
    }

    private static void forgeWithAllKeysMade() {
        TicketRealm x = new TicketRealm(0);
        for (int key = 0; key < 200; key++) {
            x.enrol(2);
        }
        due.is("the last key", TicketRealm.BAD_SEAL, x.forge(199, 1, 2, 0, 0));
        due.is("steal it", 199, x.steal(2));
        due.is("with it", 0, x.forge(199, 2, 2, 199, 0));
        due.is("beyond it", TicketRealm.BAD_SEAL, x.forge(200, 1, 2, 0, 0));
        due.is("holding one beyond it", TicketRealm.BAD_SEAL, x.forge(199, 2, 2, 200, 0));
    }

    private static void forgeFull() {
        TicketRealm x = Scene.enrolled(0);
        x.steal(2);
        for (int seal = 0; seal < 150; seal++) {
            due.is("seal " + seal, seal, x.forge(2, 1 + seal % 4, 2, 2, 0));
        }
        for (int kind = 1; kind <= 4; kind++) {
            due.is("kind " + kind, TicketRealm.FULL, x.forge(2, kind, 2, 2, 0));
        }
        due.is("BAD_SEAL before FULL", TicketRealm.BAD_SEAL, x.forge(3, 1, 2, 2, 0));
        due.is("UNKNOWN before FULL", TicketRealm.UNKNOWN, x.forge(2, 5, 2, 2, 0));
        due.is("seals", 150, x.look(6, 0));
        due.is("learn from the last, a ticket", 2, x.learn(149));
        due.is("learn from the one before, a proof", 0, x.learn(148));
        due.is("no seal is beyond it", TicketRealm.UNKNOWN, x.learn(150));
        due.is("nor shows", TicketRealm.UNKNOWN, x.seal(150, 0));
    }
}
