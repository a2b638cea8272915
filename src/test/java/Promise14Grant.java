@Section("Promise 14: grant")
final class Promise14Grant extends Sentences {
    /**
     * The key 0 of the key centre is stolen; seal 0 is a forged ticket of user 2 for 0, with key 0 as
     * session key too.
     */
    private static TicketRealm robbed(int skew, int end) {
        TicketRealm x = Scene.enrolled(skew);
        x.steal(0);
        x.forge(0, TICKET, 2, 0, end);
        return x;
    }

    private static int claim(TicketRealm x, int time) {
        return x.forge(0, CLAIM, 2, 0, time);
    }

    @Says("The key centre is asked for a further ticket, with a TICKET for 0 and a CLAIM.")
    void theSameClaimServesAgain() {
        TicketRealm x = Scene.enrolled(0);
        int first = Scene.credential(x, 2, 0, 9);
        int claim = x.ask(2, 1);
        is("once", 4, x.grant(first, claim, 1, 2, 5));
        is("again, for another target and nonce", 6, x.grant(first, claim, 0, 9, 5));
        is("the user's request is not looked at", 2, x.look(3, 2));
    }

    @Says("UNKNOWN: target is not 0 or 1")
    void noSuchTarget() {
        TicketRealm x = robbed(0, 9);
        int claim = claim(x, 0);
        for (int target : new int[] {MIN, -1, 2, 3, MAX}) {
            is("target " + target, UNKNOWN, x.grant(0, claim, target, 1, 5));
        }
        is("no seal was made", 2, x.look(6, 0));
        is("no key was made", 4, x.look(7, 0));
    }

    @Says("or not in the book,")
    void targetIsNotInTheBook() {
        TicketRealm x = robbed(0, 9);
        int claim = claim(x, 0);
        x.save();
        x.remove(1);
        is("1 is not", UNKNOWN, x.grant(0, claim, 1, 1, 5));
        is("for 0 that is nothing", 2, x.grant(0, claim, 0, 1, 5));
        x.crash();
        is("1 is again", 4, x.grant(0, claim, 1, 1, 5));
    }

    @Says("0 is not in the book,")
    void theCentreIsNotInTheBook() {
        TicketRealm x = robbed(0, 9);
        int claim = claim(x, 0);
        x.save();
        x.remove(0);
        is("for 1", UNKNOWN, x.grant(0, claim, 1, 1, 5));
        is("for 0", UNKNOWN, x.grant(0, claim, 0, 1, 5));
        x.crash();
        is("0 is again", 2, x.grant(0, claim, 1, 1, 5));
    }

    @Says("or life is less than 1.")
    void lifeIsTooSmall() {
        TicketRealm x = robbed(0, 9);
        int claim = claim(x, 0);
        for (int life : new int[] {MIN, -1, 0}) {
            is("life " + life, UNKNOWN, x.grant(0, claim, 1, 1, life));
        }
        is("no seal was made", 2, x.look(6, 0));
        is("life 1", 2, x.grant(0, claim, 1, 1, 1));
        is("END", 1, x.seal(2, 1));
    }

    @Says("BAD_SEAL: ticket is no TICKET")
    void noSuchTicket() {
        TicketRealm x = robbed(0, 9);
        int claim = claim(x, 0);
        for (int ticket : noSeals(x)) {
            is("ticket " + ticket, BAD_SEAL, x.grant(ticket, claim, 1, 1, 5));
        }
        is("no seal was made", 2, x.look(6, 0));
    }

    @Says("BAD_SEAL: ticket is no TICKET")
    void anotherKindAsTicket() {
        TicketRealm x = robbed(0, 9);
        int claim = claim(x, 0);
        is("a proof", BAD_SEAL, x.grant(x.forge(0, PROOF, 2, 0, 9), claim, 1, 1, 5));
        is("a part", BAD_SEAL, x.grant(x.forge(0, PART, 2, 0, 9), claim, 1, 1, 5));
        is("a claim", BAD_SEAL, x.grant(claim, claim, 1, 1, 5));
    }

    @Says("that the key of 0 in the book opens,")
    void aTicketUnderAnotherKey() {
        TicketRealm x = robbed(0, 9);
        int claim = claim(x, 0);
        for (int p = 1; p < 4; p++) {
            x.steal(p);
            is("under key " + p, BAD_SEAL, x.grant(x.forge(p, TICKET, 2, 0, 9), claim, 1, 1, 5));
        }
        int forService = Scene.credential(x, 2, 1, 9);
        is("a ticket for 1", BAD_SEAL, x.grant(forService, x.order(2, READ, 0, 0), 1, 1, 5));
    }

    @Says("that the key of 0 in the book opens,")
    void theKeyInTheBookNotTheOwnOne() {
        TicketRealm x = robbed(0, 9);
        int claim = claim(x, 0);
        x.save();
        x.enrol(0);
        is("the new key in the book", BAD_SEAL, x.grant(0, claim, 1, 1, 5));
        x.crash();
        is("the old key in the book", 2, x.grant(0, claim, 1, 1, 5));
        int key = x.steal(0);
        is("the own key", BAD_SEAL, x.grant(x.forge(key, TICKET, 2, 0, 9), claim, 1, 1, 5));
    }

    @Says("or claim is no CLAIM")
    void noSuchClaim() {
        TicketRealm x = robbed(0, 9);
        for (int claim : noSeals(x)) {
            is("claim " + claim, BAD_SEAL, x.grant(0, claim, 1, 1, 5));
        }
        is("no seal was made", 1, x.look(6, 0));
    }

    @Says("or claim is no CLAIM")
    void anotherKindAsClaim() {
        TicketRealm x = robbed(0, 9);
        is("a proof", BAD_SEAL, x.grant(0, x.forge(0, PROOF, 2, 0, 0), 1, 1, 5));
        is("a ticket", BAD_SEAL, x.grant(0, 0, 1, 1, 5));
        is("a part", BAD_SEAL, x.grant(0, x.forge(0, PART, 2, 0, 0), 1, 1, 5));
        is("a claim", 4, x.grant(0, claim(x, 0), 1, 1, 5));
    }

    @Says("that the session key in the ticket opens.")
    void aClaimUnderAnotherKey() {
        TicketRealm x = robbed(0, 9);
        x.steal(3);
        int ticket = x.forge(0, TICKET, 2, 3, 9);
        int underThree = x.forge(3, CLAIM, 2, 0, 0);
        int underZero = claim(x, 0);
        is("under the centre's key, not the session key", BAD_SEAL, x.grant(ticket, underZero, 1, 1, 5));
        is("under the session key of another ticket", BAD_SEAL, x.grant(0, underThree, 1, 1, 5));
        is("under the session key", 4, x.grant(ticket, underThree, 1, 1, 5));
    }

    @Says("MISMATCH: the clients in them differ,")
    void clientsDiffer() {
        for (int p = 0; p < 6; p++) {
            TicketRealm x = robbed(0, 9);
            int claim = x.forge(0, CLAIM, p, 0, 0);
            is("claim of " + p, p == 2 ? 2 : MISMATCH, x.grant(0, claim, 1, 1, 5));
        }
    }

    @Says("the order's operation is not 0,")
    void theClaimHasAnOperation() {
        TicketRealm x = robbed(0, 9);
        for (int operation = 1; operation <= 3; operation++) {
            int claim = x.forge(0, CLAIM, 2, operation, 0);
            is("operation " + operation, MISMATCH, x.grant(0, claim, 1, 1, 5));
        }
        int fileAndValue = x.forge(0, CLAIM, 2, Scene.coded(0, 2, 5), 0);
        is("file and value are not looked at", 5, x.grant(0, fileAndValue, 1, 1, 5));
    }

    @Says("or the client is no user in the book.")
    void theClientIsNoUser() {
        TicketRealm x = robbed(0, 9);
        for (int p = 0; p < 2; p++) {
            int ticket = x.forge(0, TICKET, p, 0, 9);
            int claim = x.forge(0, CLAIM, p, 0, 0);
            is("client " + p, MISMATCH, x.grant(ticket, claim, 1, 1, 5));
        }
    }

    @Says("or the client is no user in the book.")
    void theClientIsNotInTheBook() {
        TicketRealm x = robbed(0, 9);
        int claim = claim(x, 0);
        x.save();
        x.remove(2);
        is("removed", MISMATCH, x.grant(0, claim, 1, 1, 5));
        x.crash();
        is("back in it", 2, x.grant(0, claim, 1, 1, 5));
        int ticketOf5 = x.forge(0, TICKET, 5, 0, 9);
        is("never enrolled", MISMATCH, x.grant(ticketOf5, x.forge(0, CLAIM, 5, 0, 0), 1, 1, 5));
    }

    @Says("LATE: the claim's time is not near the key centre's clock,")
    void timesAtTheEdge() {
        TicketRealm x = robbed(2, 50);
        x.tick(0, 10);
        for (int time = 8; time <= 12; time++) {
            is("time " + time, true, x.grant(0, claim(x, time), 1, 1, 5) >= 0);
        }
        is("too early", LATE, x.grant(0, claim(x, 7), 1, 1, 5));
        is("too late", LATE, x.grant(0, claim(x, 13), 1, 1, 5));
    }

    @Says("LATE: the claim's time is not near the key centre's clock,")
    void timesSoFarOffThatADifferenceWraps() {
        TicketRealm x = robbed(100, MAX);
        x.tick(0, 10);
        for (int time : new int[] {MIN, MIN + 1, MIN + 9, MIN + 10, MIN + 11, MIN + 110, MAX - 90, MAX - 1, MAX}) {
            is("time " + time, LATE, x.grant(0, claim(x, time), 1, 1, 5));
        }
    }

    @Says("LATE: the claim's time is not near the key centre's clock,")
    void otherClocksAreNotLookedAt() {
        TicketRealm x = robbed(0, 9);
        int claim = claim(x, 0);
        x.tick(1, 50);
        x.tick(2, 50);
        is("the centre's clock is as it was", 2, x.grant(0, claim, 1, 1, 5));
        x.tick(0, 1);
        is("the centre's clock has moved", LATE, x.grant(0, claim, 1, 1, 5));
    }

    @Says("or that is greater than the ticket's END.")
    void afterEnd() {
        TicketRealm x = robbed(3, 10);
        x.tick(0, 10);
        is("at END", 2, x.grant(0, claim(x, 11), 1, 1, 5));
        x.tick(0, 1);
        is("after END, by less than SKEW", LATE, x.grant(0, claim(x, 10), 1, 1, 5));
        int longOver = x.forge(0, TICKET, 2, 0, MIN);
        is("long after END", LATE, x.grant(longOver, claim(x, 11), 1, 1, 5));
        int farOff = x.forge(0, TICKET, 2, 0, MAX);
        is("long before END", true, x.grant(farOff, claim(x, 11), 1, 1, 5) >= 0);
    }

    @Says("or that is greater than the ticket's END.")
    void afterEndThoughNotAfterLast() {
        TicketRealm x = Scene.enrolled(0);
        int first = Scene.credential(x, 2, 0, 3);
        x.tick(0, 4);
        x.tick(2, 4);
        is("for 0", LATE, x.grant(first, x.ask(2, 0), 0, 2, 5));
        is("for 1", LATE, x.grant(first, x.ask(2, 1), 1, 3, 5));
    }

    @Says("FULL.")
    void fullWithoutRoomForTwoSeals() {
        for (int seals = MOST_SEALS - 2; seals <= MOST_SEALS; seals++) {
            TicketRealm x = robbed(0, 9);
            int claim = claim(x, 0);
            Scene.makeSeals(x, seals);
            boolean fits = seals == MOST_SEALS - 2;
            is("with " + seals + " seals", fits ? seals : FULL, x.grant(0, claim, 1, 1, 5));
            is("seals after it", fits ? MOST_SEALS : seals, x.look(6, 0));
            is("keys after it", fits ? 5 : 4, x.look(7, 0));
        }
    }

    @Says("FULL.")
    void fullWithoutRoomForAKey() {
        for (int keys = MOST_KEYS - 1; keys <= MOST_KEYS; keys++) {
            TicketRealm x = robbed(0, 9);
            int claim = claim(x, 0);
            Scene.makeKeys(x, keys);
            boolean fits = keys == MOST_KEYS - 1;
            is("with " + keys + " keys", fits ? 2 : FULL, x.grant(0, claim, 1, 1, 5));
            is("seals after it", fits ? 4 : 2, x.look(6, 0));
            is("keys after it", MOST_KEYS, x.look(7, 0));
        }
    }

    @Says("Otherwise as with issue(),")
    void asWithIssue() {
        for (int target = 0; target < 2; target++) {
            TicketRealm x = robbed(0, 50);
            int ticket = x.grant(0, claim(x, 0), target, 7, 9);
            is("answers the ticket's number", 2, ticket);
            is("first a TICKET", TICKET, x.seal(2, 0));
            is("then a PART", PART, x.seal(3, 0));
            is("END of the ticket", 9, x.seal(2, 1));
            is("END of the part", 9, x.seal(3, 1));
            is("seals", 4, x.look(6, 0));
            is("keys", 5, x.look(7, 0));
            is("the same session key in the part", 4, x.learn(3));
            x.steal(target);
            is("and in the ticket, under the target's key", 4, x.learn(2));
        }
    }

    @Says("Otherwise as with issue(),")
    void theTargetsKeyIsTheBooksNotItsOwn() {
        TicketRealm x = robbed(0, 50);
        x.save();
        x.enrol(1);
        x.crash();
        int ticket = x.grant(0, claim(x, 0), 1, 7, 9);
        x.steal(1);
        is("not under the own key", BAD_SEAL, x.learn(ticket));
    }

    /** Row: life, limit of the client, limit of the target, and the least of them. */
    @Says("Otherwise as with issue(),")
    void endIsTheLeast() {
        int[][] rows = {{5, 30, 40, 5}, {50, 30, 40, 30}, {50, 40, 30, 30}, {MAX, 1, 1000, 1}, {MAX, 1000, 1, 1},
            {1, 1000, 1000, 1}, {MAX, 1000, 1000, 1000}};
        for (int target = 0; target < 2; target++) {
            for (int[] row : rows) {
                TicketRealm x = robbed(0, MAX);
                x.tick(0, 100);
                x.limit(2, row[1]);
                x.limit(target, row[2]);
                int ticket = x.grant(0, claim(x, 100), target, 1, row[0]);
                is("END for " + target + " with life " + row[0], 100 + row[3], x.seal(ticket, 1));
            }
        }
    }

    @Says("Otherwise as with issue(),")
    void startIsTheCentresClock() {
        TicketRealm x = robbed(3, 50);
        x.allow(2, 0, 1);
        x.steal(1);
        x.tick(0, 14);
        int ticket = x.grant(0, claim(x, 14), 1, 1, 9);
        int key = x.learn(ticket);
        x.tick(1, 10);
        int early = x.forge(key, CLAIM, 2, READ, 10);
        is("START 14 is greater than 10 + 3", LATE, x.serve(ticket, early));
        x.tick(1, 1);
        is("START 14 is not greater than 11 + 3", 0, x.serve(ticket, early));
    }

    @Says("Otherwise as with issue(),")
    void thePartHoldsNonceAndTarget() {
        TicketRealm x = Scene.enrolled(0);
        int first = Scene.credential(x, 2, 0, 9);
        int claim = x.ask(2, 1);
        for (int nonce : new int[] {MIN, -1, 0, 1, 3, MAX}) {
            int ticket = x.grant(first, claim, 1, nonce, 5);
            is("nonce " + nonce, false, x.receive(2, ticket + 1, ticket));
        }
        int other = x.grant(first, claim, 0, 2, 5);
        is("another target", false, x.receive(2, other + 1, other));
        int ticket = x.grant(first, claim, 1, 2, 5);
        is("nonce and target", true, x.receive(2, ticket + 1, ticket));
    }

    @Says("with the client of the ticket,")
    void theClientIsTheTicketsOne() {
        for (int p = 2; p < 4; p++) {
            TicketRealm x = robbed(0, 9);
            x.allow(p, 0, 1);
            x.limit(5 - p, 1);
            int old = x.forge(0, TICKET, p, 0, 9);
            int ticket = x.grant(old, x.forge(0, CLAIM, p, 0, 0), 1, 1, 5);
            is("END by the client's limit", 5, x.seal(ticket, 1));
            int key = x.learn(ticket + 1);
            is("the other one's claim", MISMATCH, x.serve(ticket, x.forge(key, CLAIM, 5 - p, READ, 0)));
            is("the client's claim", 0, x.serve(ticket, x.forge(key, CLAIM, p, READ, 0)));
        }
    }

    /** Row: ticks after a first ticket with END 15, life, END due. */
    @Says("but that END is also at most the ticket's END (target 1)")
    void endForTheServiceIsAtMostTheTicketsEnd() {
        int[][] rows = {{1, 13, 14}, {1, 14, 15}, {1, 15, 15}, {1, MAX, 15}, {14, 1, 15}, {14, 2, 15}, {15, 1, 15},
            {15, 99, 15}};
        for (int[] row : rows) {
            TicketRealm x = Scene.enrolled(0);
            Scene.credential(x, 2, 0, 15);
            x.tick(0, row[0]);
            x.tick(2, row[0]);
            int ticket = Scene.further(x, 2, 1, row[1]);
            is("END at " + row[0] + " with life " + row[1], row[2], x.seal(ticket, 1));
            is("END of the part", row[2], x.seal(ticket + 1, 1));
        }
    }

    /** Row: ticks after a first ticket with END 8 and LAST 40, life, END due. */
    @Says("or the ticket's LAST (target 0),")
    void endForTheCentreIsAtMostTheTicketsLast() {
        int[][] rows = {{1, 8, 9}, {1, 38, 39}, {1, 39, 40}, {1, 40, 40}, {1, MAX, 40}, {8, 31, 39}, {8, 32, 40},
            {8, 33, 40}};
        for (int[] row : rows) {
            TicketRealm x = Scene.enrolled(0);
            x.limit(2, 8);
            Scene.credential(x, 2, 0, 15);
            x.limit(2, 1000);
            x.limit(0, 1000);
            x.tick(0, row[0]);
            x.tick(2, row[0]);
            int ticket = Scene.further(x, 2, 0, row[1]);
            is("END at " + row[0] + " with life " + row[1], row[2], x.seal(ticket, 1));
            is("END of the part", row[2], x.seal(ticket + 1, 1));
        }
    }

    @Says("but that END is also at most the ticket's END (target 1) or the ticket's LAST (target 0),")
    void forgedEndAndLastBindToo() {
        TicketRealm x = robbed(0, 6);
        is("LAST", 6, x.seal(x.grant(0, claim(x, 0), 0, 1, 99), 1));
        is("END", 6, x.seal(x.grant(0, claim(x, 0), 1, 1, 99), 1));
        int none = x.forge(0, TICKET, 2, 0, 0);
        is("LAST that is now", 0, x.seal(x.grant(none, claim(x, 0), 0, 1, 99), 1));
        is("END that is now", 0, x.seal(x.grant(none, claim(x, 0), 1, 1, 99), 1));
    }

    @Says("LAST is END (target 1) or the ticket's LAST (target 0),")
    void lastIsHandedOn() {
        TicketRealm x = Scene.enrolled(0);
        x.limit(2, 10);
        x.tick(0, 100);
        x.tick(2, 100);
        is("END of the first", 110, x.seal(Scene.credential(x, 2, 0, 99), 1));
        for (int end = 120; end <= 150; end += 10) {
            x.tick(0, 10);
            x.tick(2, 10);
            is("END of a further one", end, x.seal(Scene.further(x, 2, 0, 99), 1));
        }
        is("a short one", 141, x.seal(Scene.further(x, 2, 0, 1), 1));
        x.limit(2, 1000);
        x.limit(0, 1000);
        is("LAST is still the first one's", 150, x.seal(Scene.further(x, 2, 0, 999), 1));
        x.tick(0, 10);
        x.tick(2, 10);
        is("at LAST", 150, x.seal(Scene.further(x, 2, 0, 999), 1));
        x.tick(0, 1);
        x.tick(2, 1);
        is("after LAST", LATE, x.grant(x.look(4, 2), x.ask(2, 0), 0, x.look(3, 2), 5));
    }

    @Says("and the PART is made under the session key in the old ticket.")
    void thePartIsUnderTheOldSessionKey() {
        TicketRealm x = Scene.enrolled(0);
        int first = Scene.credential(x, 2, 0, 15);
        int claim = x.ask(2, 1);
        int ticket = x.grant(first, claim, 1, 2, 9);
        x.steal(1);
        x.steal(2);
        x.steal(3);
        is("not under the client's key", BAD_SEAL, x.learn(ticket + 1));
        is("nor under the new session key", 5, x.learn(ticket));
        is("which is stolen by now", BAD_SEAL, x.learn(ticket + 1));
        is("the old session key", 4, x.learn(first + 1));
        is("opens it", 5, x.learn(ticket + 1));
        is("the user opens it with that too", true, x.receive(2, ticket + 1, ticket));
    }
}
