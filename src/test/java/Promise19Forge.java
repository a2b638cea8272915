@Section("Promise 19: forge")
final class Promise19Forge extends Sentences {
    /** All keys 0 to 3 are stolen. */
    private static TicketRealm robbed() {
        TicketRealm x = Scene.enrolled(0);
        for (int p = 0; p < 4; p++) {
            x.steal(p);
        }
        return x;
    }

    @Says("The caller makes a seal under a stolen key.")
    void theSealIsUnderThatKey() {
        TicketRealm x = robbed();
        for (int key = 0; key < 4; key++) {
            int proof = x.forge(key, PROOF, 2, 0, 0);
            is("under key " + key, key == 2, x.issue(2, 1, 1, proof, 5) != BAD_SEAL);
        }
    }

    @Says("Kind 1: PROOF of a client with time b (a is not looked at).")
    void proof() {
        for (int a : new int[] {MIN, -1, 0, 4, MAX}) {
            TicketRealm x = robbed();
            is("forge", 0, x.forge(2, PROOF, 2, a, 7));
            is("kind", PROOF, x.seal(0, 0));
            is("END", 0, x.seal(0, 1));
            is("time", 7, x.seal(0, 2));
            x.tick(0, 7);
            is("client", 1, x.issue(2, 1, 1, 0, 5));
            is("issue for another", BAD_SEAL, x.issue(3, 1, 1, 0, 5));
        }
    }

    @Says("Kind 1: PROOF of a client with time b")
    void proofOfAnyTime() {
        TicketRealm x = robbed();
        for (int time : new int[] {MIN, -1, 0, 1, MAX}) {
            is("time", time, x.seal(x.forge(2, PROOF, 2, 0, time), 2));
        }
    }

    @Says("2: TICKET of a client with session key a, START 0, END b, LAST b.")
    void ticketForTheCentre() {
        TicketRealm x = robbed();
        x.tick(0, 2);
        is("forge", 0, x.forge(0, TICKET, 2, 3, 7));
        is("kind", TICKET, x.seal(0, 0));
        is("END", 7, x.seal(0, 1));
        is("time", 0, x.seal(0, 2));
        is("session key", 3, x.learn(0));
        int claim = x.forge(3, CLAIM, 2, 0, 2);
        is("LAST", 7, x.seal(x.grant(0, claim, 0, 1, 99), 1));
        is("client", MISMATCH, x.grant(0, x.forge(3, CLAIM, 3, 0, 2), 0, 1, 99));
    }

    @Says("2: TICKET of a client with session key a, START 0, END b, LAST b.")
    void ticketForTheService() {
        TicketRealm x = robbed();
        x.tick(0, 50);
        x.allow(2, 0, 1);
        int ticket = x.forge(1, TICKET, 2, 3, 7);
        is("START 0", 0, x.serve(ticket, x.forge(3, CLAIM, 2, READ, 0)));
        x.tick(1, 7);
        is("at END", 0, x.serve(ticket, x.forge(3, CLAIM, 2, READ, 7)));
        x.tick(1, 1);
        is("after END", LATE, x.serve(ticket, x.forge(3, CLAIM, 2, READ, 8)));
    }

    @Says("END b, LAST b.")
    void ticketWithAnyEnd() {
        TicketRealm x = robbed();
        for (int end : new int[] {MIN, -1, 0, 1, MAX}) {
            is("END", end, x.seal(x.forge(0, TICKET, 2, 0, end), 1));
        }
    }

    @Says("3: PART with session key a, nonce b, target 1, END 1000000 (client is not looked at).")
    void part() {
        for (int client : new int[] {MIN, -1, 0, 6, MAX}) {
            TicketRealm x = robbed();
            x.login(2, 1);
            is("forge for " + client, 1, x.forge(2, PART, client, 3, 1));
            is("kind", PART, x.seal(1, 0));
            is("END", 1000000, x.seal(1, 1));
            is("time", 0, x.seal(1, 2));
            is("session key", 3, x.learn(1));
            is("nonce and target", true, x.receive(2, 1, 0));
        }
    }

    @Says("3: PART with session key a, nonce b, target 1,")
    void partWithAnotherNonceOrTarget() {
        TicketRealm x = robbed();
        x.login(2, 1);
        for (int nonce : new int[] {MIN, -1, 0, 2, MAX}) {
            is("nonce " + nonce, false, x.receive(2, x.forge(2, PART, 0, 3, nonce), 0));
        }
        x.login(2, 0);
        is("never for target 0", false, x.receive(2, x.forge(2, PART, 0, 3, 2), 0));
    }

    @Says("3: PART with session key a,")
    void theUserTakesTheSessionKeyOfThePart() {
        TicketRealm x = robbed();
        x.allow(2, 0, 1);
        x.login(2, 1);
        x.receive(2, x.forge(2, PART, 0, 3, 1), 0);
        int ticket = x.forge(1, TICKET, 2, 3, 9);
        is("order under it", 0, x.serve(ticket, x.order(2, READ, 0, 0)));
    }

    @Says("4: CLAIM of a client with time b, serial 0, and the order")
    void claim() {
        TicketRealm x = robbed();
        for (int time : new int[] {MIN, -1, 0, 1, MAX}) {
            int claim = x.forge(1, CLAIM, 2, MAX, time);
            is("kind", CLAIM, x.seal(claim, 0));
            is("END", 0, x.seal(claim, 1));
            is("time", time, x.seal(claim, 2));
        }
        x.allow(3, 0, 1);
        int ticket = x.forge(1, TICKET, 3, 1, 9);
        is("another client", MISMATCH, x.serve(ticket, x.forge(1, CLAIM, 2, READ, 0)));
        is("that client", 0, x.serve(ticket, x.forge(1, CLAIM, 3, READ, 0)));
    }

    /** A user's serials begin with 1, so its first claim is never one that was forged. */
    @Says("serial 0,")
    void claimWithSerialZero() {
        TicketRealm x = Scene.robbedService(0, 50);
        x.steal(2);
        x.login(2, 1);
        x.receive(2, x.forge(2, PART, 0, 1, 1), 0);
        is("forged", 0, Scene.served(x, ADD, 0, 1, 0));
        is("forged again", REPEATED, Scene.served(x, ADD, 0, 1, 0));
        is("the user's first", 0, x.serve(0, x.order(2, ADD, 0, 1)));
        is("the user's second", 0, x.serve(0, x.order(2, ADD, 0, 1)));
        is("three in all", 3, x.look(0, 0));
    }

    @Says("with operation a & 3,")
    void claimsOperation() {
        for (int high : new int[] {0, 4, 20, -16, MIN, MAX & ~3}) {
            TicketRealm x = Scene.robbedService(0, 50);
            for (int file = 0; file < 3; file++) {
                x.allow(2, file, 2);
            }
            is("0 in " + high, MISMATCH, x.serve(0, x.forge(1, CLAIM, 2, high, 0)));
            is("READ in " + high, DENIED, x.serve(0, x.forge(1, CLAIM, 2, high | READ, 0)));
            is("WRITE in " + high, 0, x.serve(0, x.forge(1, CLAIM, 2, high | WRITE, 0)));
            is("ADD in " + high, DENIED, x.serve(0, x.forge(1, CLAIM, 2, high | ADD, 0)));
        }
    }

    @Says("file (a >> 2 & 3) mod 3,")
    void claimsFile() {
        int[] files = {0, 1, 2, 0};
        for (int sign : new int[] {0, MIN}) {
            for (int bits = 0; bits < 4; bits++) {
                TicketRealm x = Scene.robbedService(0, 50);
                int a = sign | 5 << 4 | bits << 2 | WRITE;
                is("forged " + a, 0, x.serve(0, x.forge(1, CLAIM, 2, a, 0)));
                for (int file = 0; file < 3; file++) {
                    is("file " + file + " by " + a, file == files[bits], x.look(0, file) != 0);
                }
            }
        }
    }

    /** Row: a, and the value in it. */
    @Says("value a >> 4.")
    void claimsValue() {
        int[][] rows = {{2, 0}, {15 << 4 | 2, 15}, {-16 | 2, -1}, {-32 | 2, -2}, {MIN | 2, -134217728},
            {MAX & ~15 | 2, 134217727}};
        for (int[] row : rows) {
            TicketRealm x = Scene.robbedService(0, 50);
            is("forged " + row[0], 0, x.serve(0, x.forge(1, CLAIM, 2, row[0], 0)));
            is("value by " + row[0], row[1], x.look(0, 0));
        }
    }

    @Says("Answers the seal's number.")
    void answersTheSealsNumber() {
        TicketRealm x = robbed();
        for (int seal = 0; seal < MOST_SEALS; seal++) {
            is("kind " + (1 + seal % 4), seal, x.forge(2, 1 + seal % 4, 2, 2, 0));
        }
    }

    @Says("UNKNOWN: kind is not 1 .. 4,")
    void noSuchKind() {
        TicketRealm x = robbed();
        for (int kind : new int[] {MIN, -1, 0, 5, MAX}) {
            is("kind " + kind, UNKNOWN, x.forge(2, kind, 2, 2, 0));
        }
        is("no seal was made", 0, x.look(6, 0));
    }

    @Says("or client (kinds 1, 2, 4) is no principal.")
    void noSuchClient() {
        TicketRealm x = robbed();
        for (int client : NO_PRINCIPALS) {
            is("proof of " + client, UNKNOWN, x.forge(2, PROOF, client, 2, 0));
            is("ticket of " + client, UNKNOWN, x.forge(2, TICKET, client, 2, 0));
            is("claim of " + client, UNKNOWN, x.forge(2, CLAIM, client, 2, 0));
        }
        is("no seal was made", 0, x.look(6, 0));
    }

    @Says("or client (kinds 1, 2, 4) is no principal.")
    void everyPrincipalMayBeTheClient() {
        TicketRealm x = robbed();
        for (int client = 0; client < 6; client++) {
            is("proof of " + client, 3 * client, x.forge(2, PROOF, client, 2, 0));
            is("ticket of " + client, 3 * client + 1, x.forge(2, TICKET, client, 2, 0));
            is("claim of " + client, 3 * client + 2, x.forge(2, CLAIM, client, 2, 0));
        }
    }

    @Says("BAD_SEAL: key is not stolen,")
    void theKeyIsNotStolen() {
        TicketRealm x = Scene.enrolled(0);
        x.steal(2);
        for (int key : new int[] {MIN, -1, 0, 1, 3, 4, MOST_KEYS - 1, MOST_KEYS, MAX}) {
            for (int kind = PROOF; kind <= CLAIM; kind++) {
                is("kind " + kind + " under " + key, BAD_SEAL, x.forge(key, kind, 2, 2, 0));
            }
        }
        is("no seal was made", 0, x.look(6, 0));
    }

    @Says("or with kinds 2 and 3 a is not.")
    void theSessionKeyIsNotStolen() {
        TicketRealm x = Scene.enrolled(0);
        x.steal(2);
        for (int a : new int[] {MIN, -1, 0, 1, 3, 4, MOST_KEYS - 1, MOST_KEYS, MAX}) {
            is("ticket with " + a, BAD_SEAL, x.forge(2, TICKET, 2, a, 0));
            is("part with " + a, BAD_SEAL, x.forge(2, PART, 2, a, 0));
        }
        is("no seal was made", 0, x.look(6, 0));
        is("a proof's a is no key", 0, x.forge(2, PROOF, 2, 3, 0));
        is("a claim's a is no key", 1, x.forge(2, CLAIM, 2, 3, 0));
    }

    @Says("BAD_SEAL: key is not stolen, or with kinds 2 and 3 a is not.")
    void theLastOfAllKeys() {
        TicketRealm x = new TicketRealm(0);
        for (int key = 0; key < MOST_KEYS; key++) {
            x.enrol(2);
        }
        int last = MOST_KEYS - 1;
        is("not stolen", BAD_SEAL, x.forge(last, PROOF, 2, 0, 0));
        x.steal(2);
        is("stolen", 0, x.forge(last, TICKET, 2, last, 0));
        is("beyond it", BAD_SEAL, x.forge(MOST_KEYS, PROOF, 2, 0, 0));
        is("with one beyond it", BAD_SEAL, x.forge(last, TICKET, 2, MOST_KEYS, 0));
    }

    @Says("FULL.")
    void fullWithAllSealsMade() {
        TicketRealm x = robbed();
        Scene.makeSeals(x, MOST_SEALS - 1);
        is("the last seal", MOST_SEALS - 1, x.forge(2, PART, 2, 2, 0));
        for (int kind = PROOF; kind <= CLAIM; kind++) {
            is("kind " + kind, FULL, x.forge(2, kind, 2, 2, 0));
        }
        is("seals", MOST_SEALS, x.look(6, 0));
    }

    @Says("FULL.")
    void noRoomForKeysIsNeeded() {
        TicketRealm x = robbed();
        Scene.makeKeys(x, MOST_KEYS);
        for (int kind = PROOF; kind <= CLAIM; kind++) {
            is("kind " + kind, kind - 1, x.forge(2, kind, 2, 2, 0));
        }
    }
}
