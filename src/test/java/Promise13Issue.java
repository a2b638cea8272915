@Section("Promise 13: issue")
final class Promise13Issue extends Sentences {
    /** All clocks are 10; the key 2 of user 2 is stolen, so that proofs of any time can be made. */
    private static TicketRealm robbed(int skew) {
        TicketRealm x = Scene.enrolled(skew);
        Scene.tickAll(x, 10);
        x.steal(2);
        return x;
    }

    private static int issueWithTime(TicketRealm x, int time) {
        return x.issue(2, 1, 1, x.forge(2, PROOF, 2, 0, time), 5);
    }

    @Says("The key centre is asked for a first ticket, with a PROOF.")
    void theSameProofServesAgain() {
        TicketRealm x = Scene.enrolled(0);
        int proof = x.login(2, 1);
        is("once", 1, x.issue(2, 1, 1, proof, 5));
        is("again, for another target and nonce", 3, x.issue(2, 0, 9, proof, 5));
        is("the user's request is not looked at", 1, x.look(3, 2));
    }

    @Says("UNKNOWN: client is no user in the book,")
    void clientIsNoUser() {
        TicketRealm x = Scene.enrolled(0);
        int proof = x.login(2, 1);
        for (int client : NO_USERS) {
            is("client " + client, UNKNOWN, x.issue(client, 1, 1, proof, 5));
        }
        is("no seal was made", 1, x.look(6, 0));
        is("no key was made", 4, x.look(7, 0));
    }

    @Says("UNKNOWN: client is no user in the book,")
    void clientIsNotInTheBook() {
        TicketRealm x = Scene.enrolled(0);
        int proof = x.login(2, 1);
        is("never enrolled", UNKNOWN, x.issue(4, 1, 1, proof, 5));
        x.save();
        x.remove(2);
        is("removed, with an own key", UNKNOWN, x.issue(2, 1, 1, proof, 5));
        x.crash();
        is("back in it", 1, x.issue(2, 1, 1, proof, 5));
    }

    @Says("target is not 0 or 1")
    void noSuchTarget() {
        TicketRealm x = Scene.enrolled(0);
        int proof = x.login(2, 1);
        for (int target : new int[] {MIN, -1, 2, 3, MAX}) {
            is("target " + target, UNKNOWN, x.issue(2, target, 1, proof, 5));
        }
        is("no seal was made", 1, x.look(6, 0));
        is("no key was made", 4, x.look(7, 0));
    }

    @Says("or not in the book,")
    void targetIsNotInTheBook() {
        TicketRealm x = new TicketRealm(0);
        x.enrol(2);
        int proof = x.login(2, 0);
        is("0 is not", UNKNOWN, x.issue(2, 0, 1, proof, 5));
        is("1 is not", UNKNOWN, x.issue(2, 1, 1, proof, 5));
        x.enrol(0);
        is("1 is still not", UNKNOWN, x.issue(2, 1, 1, proof, 5));
        is("0 is", 1, x.issue(2, 0, 1, proof, 5));
        x.enrol(1);
        x.remove(0);
        is("0 is not any more", UNKNOWN, x.issue(2, 0, 1, proof, 5));
        is("1 is", 3, x.issue(2, 1, 1, proof, 5));
    }

    @Says("or life is less than 1.")
    void lifeIsTooSmall() {
        TicketRealm x = Scene.enrolled(0);
        int proof = x.login(2, 1);
        for (int life : new int[] {MIN, -1, 0}) {
            is("life " + life, UNKNOWN, x.issue(2, 1, 1, proof, life));
        }
        is("no seal was made", 1, x.look(6, 0));
        is("life 1", 1, x.issue(2, 1, 1, proof, 1));
        is("END", 1, x.seal(1, 1));
    }

    @Says("BAD_SEAL: proof is no PROOF")
    void noSuchSeal() {
        TicketRealm x = Scene.enrolled(0);
        is("no seals at all", BAD_SEAL, x.issue(2, 1, 1, 0, 5));
        x.login(2, 1);
        for (int proof : noSeals(x)) {
            is("proof " + proof, BAD_SEAL, x.issue(2, 1, 1, proof, 5));
        }
        is("no seal was made", 1, x.look(6, 0));
    }

    @Says("BAD_SEAL: proof is no PROOF")
    void anotherKindOfSeal() {
        TicketRealm x = Scene.enrolled(0);
        x.steal(2);
        is("a ticket", BAD_SEAL, x.issue(2, 1, 1, x.forge(2, TICKET, 2, 2, 0), 5));
        is("a part", BAD_SEAL, x.issue(2, 1, 1, x.forge(2, PART, 2, 2, 0), 5));
        is("a claim", BAD_SEAL, x.issue(2, 1, 1, x.forge(2, CLAIM, 2, 0, 0), 5));
        is("a proof", 4, x.issue(2, 1, 1, x.forge(2, PROOF, 2, 0, 0), 5));
    }

    @Says("that the client's key in the book opens.")
    void aProofUnderAnotherKey() {
        TicketRealm x = Scene.enrolled(0);
        for (int p = 0; p < 4; p++) {
            x.steal(p);
            int want = p == 2 ? p + 1 : BAD_SEAL;
            is("under key " + p, want, x.issue(2, 1, 1, x.forge(p, PROOF, 2, 0, 0), 5));
        }
    }

    @Says("that the client's key in the book opens.")
    void theKeyInTheBookNotTheOwnOne() {
        TicketRealm x = Scene.enrolled(0);
        int old = x.login(2, 1);
        x.save();
        x.enrol(2);
        x.crash();
        is("under the own key", BAD_SEAL, x.issue(2, 1, 1, x.login(2, 1), 5));
        is("under the key in the book", 2, x.issue(2, 1, 1, old, 5));
    }

    @Says("MISMATCH: it holds another client.")
    void anotherClient() {
        for (int p = 0; p < 6; p++) {
            TicketRealm x = Scene.enrolled(0);
            x.steal(2);
            int want = p == 2 ? 1 : MISMATCH;
            is("a proof of " + p, want, x.issue(2, 1, 1, x.forge(2, PROOF, p, 0, 0), 5));
        }
    }

    @Says("LATE: its time is not near the key centre's clock.")
    void timesAtTheEdge() {
        TicketRealm x = robbed(2);
        for (int time = 8; time <= 12; time++) {
            is("time " + time, true, issueWithTime(x, time) >= 0);
        }
        is("too early", LATE, issueWithTime(x, 7));
        is("too late", LATE, issueWithTime(x, 13));
    }

    @Says("LATE: its time is not near the key centre's clock.")
    void timesAtTheEdgeWithoutSkew() {
        TicketRealm x = robbed(0);
        is("too early", LATE, issueWithTime(x, 9));
        is("the clock", true, issueWithTime(x, 10) >= 0);
        is("too late", LATE, issueWithTime(x, 11));
    }

    @Says("LATE: its time is not near the key centre's clock.")
    void timesSoFarOffThatADifferenceWraps() {
        TicketRealm x = robbed(100);
        for (int time : new int[] {MIN, MIN + 1, MIN + 9, MIN + 10, MIN + 11, MIN + 110, MAX - 90, MAX - 1, MAX}) {
            is("time " + time, LATE, issueWithTime(x, time));
        }
    }

    @Says("LATE: its time is not near the key centre's clock.")
    void otherClocksAreNotLookedAt() {
        TicketRealm x = Scene.enrolled(0);
        int proof = x.login(2, 1);
        x.tick(1, 50);
        x.tick(2, 50);
        is("the centre's clock is as it was", 1, x.issue(2, 1, 1, proof, 5));
        x.tick(0, 1);
        is("the centre's clock has moved", LATE, x.issue(2, 1, 1, proof, 5));
    }

    @Says("FULL.")
    void fullWithoutRoomForTwoSeals() {
        for (int seals = MOST_SEALS - 2; seals <= MOST_SEALS; seals++) {
            TicketRealm x = Scene.enrolled(0);
            int proof = x.login(2, 1);
            Scene.makeSeals(x, seals);
            boolean fits = seals == MOST_SEALS - 2;
            is("with " + seals + " seals", fits ? seals : FULL, x.issue(2, 1, 1, proof, 5));
            is("seals after it", fits ? MOST_SEALS : seals, x.look(6, 0));
            is("keys after it", fits ? 5 : 4, x.look(7, 0));
        }
    }

    @Says("FULL.")
    void fullWithoutRoomForAKey() {
        for (int keys = MOST_KEYS - 1; keys <= MOST_KEYS; keys++) {
            TicketRealm x = Scene.enrolled(0);
            Scene.makeKeys(x, keys);
            int proof = x.login(2, 1);
            boolean fits = keys == MOST_KEYS - 1;
            is("with " + keys + " keys", fits ? 1 : FULL, x.issue(2, 1, 1, proof, 5));
            is("seals after it", fits ? 3 : 1, x.look(6, 0));
            is("keys after it", MOST_KEYS, x.look(7, 0));
        }
    }

    @Says("Otherwise two seals are made with a new session key;")
    void twoSealsWithOneKey() {
        TicketRealm x = Scene.enrolled(0);
        int proof = x.login(2, 1);
        for (int i = 0; i < 3; i++) {
            int ticket = x.issue(2, 1, 1, proof, 5);
            is("seals", 3 + 2 * i, x.look(6, 0));
            is("keys", 5 + i, x.look(7, 0));
            x.steal(1);
            x.steal(2);
            is("key in the ticket", 4 + i, x.learn(ticket));
            is("key in the part", 4 + i, x.learn(ticket + 1));
        }
    }

    @Says("START is the key centre's clock;")
    void startShowsWhenTheServiceIsBehind() {
        TicketRealm x = Scene.enrolled(3);
        x.allow(2, 0, 1);
        x.tick(0, 14);
        x.tick(2, 12);
        int ticket = Scene.credential(x, 2, 1, 9);
        x.steal(1);
        int key = x.learn(ticket);
        x.tick(1, 10);
        int early = x.forge(key, CLAIM, 2, READ, 10);
        is("START 14 is greater than 10 + 3", LATE, x.serve(ticket, early));
        x.tick(1, 1);
        is("START 14 is not greater than 11 + 3", 0, x.serve(ticket, early));
    }

    /** Row: life, limit of the client, limit of the target, and the least of them. */
    @Says("END is START + the least of life, the client's limit and the target's limit;")
    void endIsTheLeast() {
        int[][] rows = {{5, 30, 40, 5}, {50, 30, 40, 30}, {50, 40, 30, 30}, {30, 30, 30, 30}, {1, 1, 1, 1},
            {MAX, 1, 1000, 1}, {MAX, 1000, 1, 1}, {1, 1000, 1000, 1}, {MAX, 1000, 999, 999}, {MAX, 1000, 1000, 1000}};
        for (int target = 0; target < 2; target++) {
            for (int[] row : rows) {
                TicketRealm x = Scene.enrolled(0);
                x.tick(0, 100);
                x.tick(2, 100);
                x.limit(2, row[1]);
                x.limit(target, row[2]);
                is("END for " + target + " with life " + row[0], 100 + row[3],
                        Scene.endOfIssue(x, 2, target, row[0]));
            }
        }
    }

    @Says("LAST is START + 5 times the client's limit for target 0,")
    void lastShowsInFurtherTickets() {
        for (int limit : new int[] {1, 10, 199}) {
            TicketRealm x = Scene.enrolled(0);
            x.limit(2, limit);
            x.tick(0, 7);
            x.tick(2, 7);
            Scene.credential(x, 2, 0, 1);
            x.limit(2, 1000);
            x.limit(0, 1000);
            int next = Scene.further(x, 2, 0, 1000);
            is("LAST with limit " + limit, 7 + 5 * limit, x.seal(next, 1));
        }
    }

    /** A ticket for 1 is never handed in for a further one, so all that shows is that it ends with END. */
    @Says("END for target 1.")
    void aTicketForTheServiceEndsWithItsEnd() {
        TicketRealm x = Scene.enrolled(0);
        x.allow(2, 0, 1);
        int ticket = Scene.credential(x, 2, 1, 5);
        x.tick(1, 5);
        x.tick(2, 5);
        is("at END", 0, x.serve(ticket, x.order(2, READ, 0, 0)));
        x.tick(1, 1);
        x.tick(2, 1);
        is("after END", LATE, x.serve(ticket, x.order(2, READ, 0, 0)));
        is("it is no ticket for 0", BAD_SEAL, x.grant(ticket, 3, 1, 1, 5));
    }

    @Says("First, under the target's key in the book, a TICKET;")
    void theTicketIsUnderTheTargetsKey() {
        for (int target = 0; target < 2; target++) {
            TicketRealm x = Scene.enrolled(0);
            x.issue(2, target, 1, x.login(2, target), 5);
            is("kind", TICKET, x.seal(1, 0));
            x.steal(1 - target);
            x.steal(2);
            x.steal(3);
            is("not under another's key", BAD_SEAL, x.learn(1));
            x.steal(target);
            is("under the target's", 4, x.learn(1));
        }
    }

    @Says("First, under the target's key in the book, a TICKET;")
    void theTargetsKeyIsTheBooksNotItsOwn() {
        TicketRealm x = Scene.enrolled(0);
        x.save();
        x.enrol(1);
        x.crash();
        int ticket = Scene.credential(x, 2, 1, 5);
        x.steal(1);
        is("not under the own key", BAD_SEAL, x.learn(ticket));
        is("so the service can't open it", BAD_SEAL, x.serve(ticket, x.order(2, READ, 0, 0)));
    }

    @Says("then, under the client's key in the book, a PART")
    void thePartIsUnderTheClientsKey() {
        TicketRealm x = Scene.enrolled(0);
        x.issue(2, 1, 1, x.login(2, 1), 5);
        is("kind", PART, x.seal(2, 0));
        x.steal(0);
        x.steal(1);
        x.steal(3);
        is("not under another's key", BAD_SEAL, x.learn(2));
        x.steal(2);
        is("under the client's", 4, x.learn(2));
    }

    @Says("then, under the client's key in the book, a PART")
    void theClientsKeyIsTheBooksNotItsOwn() {
        TicketRealm x = Scene.enrolled(0);
        int proof = x.login(2, 1);
        x.save();
        x.enrol(2);
        x.crash();
        int ticket = x.issue(2, 1, 1, proof, 5);
        x.steal(2);
        is("not under the own key", BAD_SEAL, x.learn(ticket + 1));
        is("but under the key of the request", true, x.receive(2, ticket + 1, ticket));
    }

    @Says("a PART with the nonce, the target and END.")
    void thePartHoldsNonceTargetAndEnd() {
        TicketRealm x = Scene.enrolled(0);
        int proof = x.login(2, 1);
        int odd = x.issue(2, 1, MIN, proof, 5);
        is("a nonce of any size is taken", 1, odd);
        is("it is in the part", false, x.receive(2, odd + 1, odd));
        int other = x.issue(2, 0, 1, proof, 5);
        is("the target is in the part", false, x.receive(2, other + 1, other));
        int ticket = x.issue(2, 1, 1, proof, 7);
        is("END of the part", 7, x.seal(ticket + 1, 1));
        is("nonce and target", true, x.receive(2, ticket + 1, ticket));
    }

    @Says("Answers the number of the TICKET.")
    void answersTheTicketsNumber() {
        TicketRealm x = Scene.enrolled(0);
        int proof = x.login(2, 1);
        for (int number = 1; number <= 9; number += 2) {
            is("issue", number, x.issue(2, 1, 1, proof, 5));
            is("kind", TICKET, x.seal(number, 0));
        }
    }
}
