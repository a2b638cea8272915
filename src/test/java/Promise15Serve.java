@Section("Promise 15: serve")
final class Promise15Serve extends Sentences {
    @Says("The file service is asked to carry out an order.")
    void anOrderIsCarriedOut() {
        TicketRealm x = Scene.enrolled(0);
        x.allow(2, 0, 2);
        int ticket = Scene.credential(x, 2, 1, 9);
        is("serve", 0, x.serve(ticket, x.order(2, WRITE, 0, 40)));
        is("file", 40, x.look(0, 0));
        is("no seal is made", 4, x.look(6, 0));
        is("no key is made", 5, x.look(7, 0));
    }

    /** Claims with the times 0, 1 and 2 are in the cache; SKEW is 2, and the service's clock is 0. */
    private static TicketRealm threeInTheCache() {
        TicketRealm x = Scene.robbedService(2, 50);
        for (int time = 0; time <= 2; time++) {
            Scene.served(x, READ, 0, 0, time);
        }
        return x;
    }

    @Says("Before anything else, all claims whose time is less than its clock - SKEW leave the cache")
    void claimsLeaveJustAfterClockLessSkew() {
        int[] left = {3, 3, 3, 2, 1, 0, 0};
        for (int clock = 1; clock < left.length; clock++) {
            TicketRealm x = threeInTheCache();
            x.tick(1, clock);
            is("before the call, at " + clock, 3, x.look(2, 0));
            is("serve at " + clock, 0, Scene.served(x, READ, 1, 0, clock));
            is("after the call, at " + clock, left[clock] + 1, x.look(2, 0));
        }
    }

    @Says("Before anything else, all claims whose time is less than its clock - SKEW leave the cache")
    void theOtherClaimsAreStillKnown() {
        TicketRealm x = threeInTheCache();
        x.tick(1, 4);
        is("time 2 is still in it", REPEATED, Scene.served(x, READ, 0, 0, 2));
        is("times 0 and 1 are not", 1, x.look(2, 0));
    }

    @Says("Before anything else, all claims whose time is less than its clock - SKEW leave the cache")
    void thereIsRoomAgainInAFullCache() {
        TicketRealm x = Scene.robbedService(1, 50);
        for (int i = 0; i < MOST_CACHED; i++) {
            Scene.served(x, ADD, 0, i, i % 2);
        }
        x.tick(1, 2);
        is("serve", 0, Scene.served(x, ADD, 0, 99, 1));
        is("six of the old ones and the new one", 7, x.look(2, 0));
        is("an old one is known", REPEATED, Scene.served(x, ADD, 0, 11, 1));
        is("the new one is known", REPEATED, Scene.served(x, ADD, 0, 99, 1));
    }

    @Says("(also if the call is refused then).")
    void claimsLeaveWhenTheCallIsRefused() {
        int[] want = {BAD_SEAL, MISMATCH, LATE, REPEATED, DENIED};
        for (int row = 0; row < want.length; row++) {
            TicketRealm x = threeInTheCache();
            x.tick(1, 3);
            is("refused", want[row], refusedForReason(x, row));
            is("one has left after " + want[row], 2, x.look(2, 0));
            x.tick(1, 2);
            is("refused with odd numbers", BAD_SEAL, x.serve(MIN, MAX));
            is("all have left", 0, x.look(2, 0));
        }
    }

    private static int refusedForReason(TicketRealm x, int row) {
        switch (row) {
            case 0:
                return x.serve(-1, -1);
            case 1:
                return Scene.served(x, 0, 0, 0, 3);
            case 2:
                return Scene.served(x, READ, 0, 0, 0);
            case 3:
                return Scene.served(x, READ, 0, 0, 1);
            default:
                x.allow(2, 0, 0);
                return Scene.served(x, READ, 0, 0, 3);
        }
    }

    @Says("(also if the call is refused then).")
    void claimsLeaveWhenTheServiceCantOpenTheTicket() {
        TicketRealm x = threeInTheCache();
        x.enrol(1);
        x.tick(1, 5);
        is("refused", BAD_SEAL, x.serve(0, 1));
        is("all have left", 0, x.look(2, 0));
    }

    @Says("BAD_SEAL: it has no own key,")
    void noOwnKey() {
        TicketRealm x = new TicketRealm(0);
        is("no seals at all", BAD_SEAL, x.serve(0, 0));
        x.enrol(0);
        x.enrol(2);
        x.steal(0);
        int ticket = x.forge(0, TICKET, 2, 0, 9);
        is("a ticket under another key", BAD_SEAL, x.serve(ticket, x.forge(0, CLAIM, 2, READ, 0)));
        is("no such seals", BAD_SEAL, x.serve(-1, -1));
    }

    @Says("ticket is no TICKET that this opens,")
    void noSuchTicket() {
        TicketRealm x = Scene.robbedService(0, 50);
        int claim = Scene.claim(x, READ, 0, 0, 0);
        for (int ticket : noSeals(x)) {
            is("ticket " + ticket, BAD_SEAL, x.serve(ticket, claim));
        }
        is("nothing was served", 0, x.look(2, 0));
        is("the right one", 0, x.serve(0, claim));
    }

    @Says("ticket is no TICKET that this opens,")
    void anotherKindAsTicket() {
        TicketRealm x = Scene.robbedService(0, 50);
        int claim = Scene.claim(x, READ, 0, 0, 0);
        is("a proof", BAD_SEAL, x.serve(x.forge(1, PROOF, 2, 1, 50), claim));
        is("a part", BAD_SEAL, x.serve(x.forge(1, PART, 2, 1, 50), claim));
        is("a claim", BAD_SEAL, x.serve(claim, claim));
    }

    @Says("ticket is no TICKET that this opens,")
    void aTicketUnderAnotherKey() {
        TicketRealm x = Scene.robbedService(0, 50);
        int claim = Scene.claim(x, READ, 0, 0, 0);
        for (int p = 0; p < 4; p++) {
            if (p != 1) {
                x.steal(p);
                is("under key " + p, BAD_SEAL, x.serve(x.forge(p, TICKET, 2, 1, 50), claim));
            }
        }
        int forCentre = Scene.credential(x, 2, 0, 9);
        is("a ticket for 0", BAD_SEAL, x.serve(forCentre, x.ask(2, 0)));
    }

    @Says("ticket is no TICKET that this opens,")
    void theOwnKeyNotTheBooks() {
        TicketRealm x = Scene.robbedService(0, 50);
        x.save();
        x.enrol(1);
        x.crash();
        is("a ticket under the key in the book", BAD_SEAL, Scene.served(x, READ, 0, 0, 0));
        x.remove(1);
        int key = x.steal(1);
        int ticket = x.forge(key, TICKET, 2, key, 50);
        int claim = x.forge(key, CLAIM, 2, READ, 0);
        is("a ticket under the own key, out of the book", 0, x.serve(ticket, claim));
    }

    @Says("or claim is no CLAIM that the session key in the ticket opens.")
    void noSuchClaim() {
        TicketRealm x = Scene.robbedService(0, 50);
        for (int claim : noSeals(x)) {
            is("claim " + claim, BAD_SEAL, x.serve(0, claim));
        }
    }

    @Says("or claim is no CLAIM that the session key in the ticket opens.")
    void anotherKindAsClaim() {
        TicketRealm x = Scene.robbedService(0, 50);
        is("a proof", BAD_SEAL, x.serve(0, x.forge(1, PROOF, 2, READ, 0)));
        is("a ticket", BAD_SEAL, x.serve(0, 0));
        is("a part", BAD_SEAL, x.serve(0, x.forge(1, PART, 2, 1, 0)));
    }

    @Says("or claim is no CLAIM that the session key in the ticket opens.")
    void aClaimUnderAnotherKey() {
        TicketRealm x = Scene.robbedService(0, 50);
        x.steal(3);
        int ticket = x.forge(1, TICKET, 2, 3, 50);
        int underThree = x.forge(3, CLAIM, 2, READ, 0);
        int underOne = Scene.claim(x, READ, 0, 0, 0);
        is("under the service's key, not the session key", BAD_SEAL, x.serve(ticket, underOne));
        is("under the session key of another ticket", BAD_SEAL, x.serve(0, underThree));
        is("under the session key", 0, x.serve(ticket, underThree));
    }

    @Says("MISMATCH: the clients in them differ,")
    void clientsDiffer() {
        TicketRealm x = Scene.robbedService(0, 50);
        for (int p = 0; p < 6; p++) {
            int claim = x.forge(1, CLAIM, p, READ, 0);
            is("claim of " + p, p == 2 ? 0 : MISMATCH, x.serve(0, claim));
        }
        is("one was served", 1, x.look(2, 0));
    }

    @Says("or the order's operation is 0.")
    void noOperation() {
        TicketRealm x = Scene.robbedService(0, 50);
        is("operation 0", MISMATCH, Scene.served(x, 0, 0, 5, 0));
        is("operation 0 of another file", MISMATCH, Scene.served(x, 0, 2, 5, 0));
        is("nothing was served", 0, x.look(2, 0));
        for (int operation = 1; operation <= 3; operation++) {
            is("operation " + operation, 0, Scene.served(x, operation, 0, 5, 0));
        }
    }

    @Says("LATE: the claim's time is not near the service's clock,")
    void timesAtTheEdge() {
        TicketRealm x = Scene.robbedService(2, 50);
        x.tick(1, 10);
        for (int time = 8; time <= 12; time++) {
            is("time " + time, 0, Scene.served(x, READ, 0, 0, time));
        }
        is("too early", LATE, Scene.served(x, READ, 0, 0, 7));
        is("too late", LATE, Scene.served(x, READ, 0, 0, 13));
        is("five are in the cache", 5, x.look(2, 0));
    }

    @Says("LATE: the claim's time is not near the service's clock,")
    void timesBelowZeroAreNearToo() {
        TicketRealm x = Scene.robbedService(2, 50);
        is("time -2", 0, Scene.served(x, READ, 0, 0, -2));
        is("time -3", LATE, Scene.served(x, READ, 0, 0, -3));
        is("one is in the cache", 1, x.look(2, 0));
    }

    @Says("LATE: the claim's time is not near the service's clock,")
    void timesSoFarOffThatADifferenceWraps() {
        TicketRealm x = Scene.robbedService(100, MAX);
        x.tick(1, 10);
        for (int time : new int[] {MIN, MIN + 1, MIN + 9, MIN + 10, MIN + 11, MIN + 110, MAX - 90, MAX - 1, MAX}) {
            is("time " + time, LATE, Scene.served(x, READ, 0, 0, time));
        }
    }

    @Says("LATE: the claim's time is not near the service's clock,")
    void otherClocksAreNotLookedAt() {
        TicketRealm x = Scene.robbedService(0, 50);
        x.tick(0, 20);
        x.tick(2, 30);
        is("the service's clock is as it was", 0, Scene.served(x, READ, 0, 0, 0));
        x.tick(1, 1);
        is("the service's clock has moved", LATE, Scene.served(x, READ, 0, 0, 0));
    }

    @Says("that is greater than the ticket's END,")
    void afterEnd() {
        TicketRealm x = Scene.robbedService(3, 10);
        x.tick(1, 10);
        is("at END", 0, Scene.served(x, READ, 0, 0, 11));
        x.tick(1, 1);
        is("after END, by less than SKEW", LATE, Scene.served(x, READ, 0, 0, 10));
        int claim = Scene.claim(x, READ, 0, 0, 10);
        is("long after END", LATE, x.serve(x.forge(1, TICKET, 2, 1, MIN), claim));
        is("long before END", 0, x.serve(x.forge(1, TICKET, 2, 1, MAX), claim));
    }

    @Says("or START is greater than the clock + SKEW.")
    void beforeStart() {
        for (int skew : new int[] {0, 1, 3}) {
            TicketRealm x = Scene.enrolled(skew);
            x.allow(2, 0, 1);
            Scene.tickAll(x, 10);
            x.tick(0, skew + 1);
            x.tick(2, skew + 1);
            int ticket = Scene.credential(x, 2, 1, 9);
            x.steal(1);
            int key = x.learn(ticket);
            int early = x.forge(key, CLAIM, 2, READ, 10);
            is("START is 1 more, with skew " + skew, LATE, x.serve(ticket, early));
            x.tick(1, 1);
            int next = x.forge(key, CLAIM, 2, READ, 11);
            is("START is just that, with skew " + skew, 0, x.serve(ticket, next));
        }
    }

    @Says("REPEATED: a claim made under the same key with the same client, time, serial and order is in the cache.")
    void theSameClaimTwice() {
        TicketRealm x = Scene.robbedService(2, 50);
        int claim = Scene.claim(x, ADD, 0, 5, 2);
        is("once", 0, x.serve(0, claim));
        is("twice", REPEATED, x.serve(0, claim));
        is("another seal with the same in it", REPEATED, Scene.served(x, ADD, 0, 5, 2));
        is("with another ticket", REPEATED, x.serve(x.forge(1, TICKET, 2, 1, 9), claim));
        is("added once", 5, x.look(0, 0));
        is("one is in the cache", 1, x.look(2, 0));
        x.tick(1, 4);
        is("as long as it is near", REPEATED, x.serve(0, claim));
        x.tick(1, 1);
        is("then it is late", LATE, x.serve(0, claim));
    }

    @Says("REPEATED: a claim made under the same key with the same client, time, serial and order is in the cache.")
    void everyClaimOfAFullCacheIsKnown() {
        TicketRealm x = Scene.robbedService(0, 50);
        for (int i = 0; i < MOST_CACHED; i++) {
            Scene.served(x, ADD, 0, i, 0);
        }
        for (int i = 0; i < MOST_CACHED; i++) {
            is("claim " + i, REPEATED, Scene.served(x, ADD, 0, i, 0));
        }
    }

    @Says("REPEATED: a claim made under the same key with the same client, time, serial and order is in the cache.")
    void aClaimThatDiffersInOneThingIsAnother() {
        TicketRealm x = Scene.robbedService(5, 50);
        x.allow(3, 0, 3);
        is("the first", 0, Scene.served(x, ADD, 0, 1, 0));
        is("another time", 0, Scene.served(x, ADD, 0, 1, 1));
        is("another operation", 0, Scene.served(x, WRITE, 0, 1, 0));
        is("another file", 0, Scene.served(x, ADD, 1, 1, 0));
        is("another value", 0, Scene.served(x, ADD, 0, 2, 0));
        int ticketOf3 = x.forge(1, TICKET, 3, 1, 50);
        is("another client", 0, x.serve(ticketOf3, x.forge(1, CLAIM, 3, Scene.coded(ADD, 0, 1), 0)));
        x.steal(0);
        int otherKey = x.forge(1, TICKET, 2, 0, 50);
        is("another key", 0, x.serve(otherKey, x.forge(0, CLAIM, 2, Scene.coded(ADD, 0, 1), 0)));
        x.steal(2);
        x.login(2, 1);
        x.receive(2, x.forge(2, PART, 0, 1, 1), 0);
        is("another serial", 0, x.serve(0, x.order(2, ADD, 0, 1)));
        is("the first again", REPEATED, Scene.served(x, ADD, 0, 1, 0));
        is("eight are in the cache", 8, x.look(2, 0));
    }

    @Says("REPEATED: a claim made under the same key with the same client, time, serial and order is in the cache.")
    void aRefusedClaimIsNotInTheCache() {
        TicketRealm x = Scene.robbedService(0, 50);
        int claim = Scene.claim(x, READ, 0, 0, 0);
        x.allow(2, 0, 0);
        is("denied", DENIED, x.serve(0, claim));
        x.allow(2, 0, 1);
        is("allowed", 0, x.serve(0, claim));
    }

    @Says("DENIED: the client is not in the book (as it is now),")
    void theClientIsNotInTheBook() {
        TicketRealm x = Scene.robbedService(0, 50);
        int claim = Scene.claim(x, READ, 0, 0, 0);
        x.save();
        x.remove(2);
        is("removed", DENIED, x.serve(0, claim));
        x.enrol(2);
        is("enrolled anew, without rights", DENIED, x.serve(0, claim));
        x.remove(2);
        x.crash();
        is("brought back", 0, x.serve(0, claim));
        int ticketOf5 = x.forge(1, TICKET, 5, 1, 50);
        is("never enrolled", DENIED, x.serve(ticketOf5, x.forge(1, CLAIM, 5, READ, 0)));
    }

    @Says("(as it is now),")
    void theSavedBookIsNotLookedAt() {
        TicketRealm x = Scene.robbedService(0, 50);
        is("rights that are not saved", 0, Scene.served(x, READ, 0, 0, 0));
        x.save();
        x.allow(2, 1, 0);
        is("rights taken back after the save", DENIED, Scene.served(x, READ, 1, 0, 0));
        x.crash();
        is("and back again", 0, Scene.served(x, READ, 1, 0, 0));
    }

    @Says("or has not the rights to the file (reading for READ, writing for WRITE, both for ADD).")
    void everyRightWithEveryOperation() {
        int[][] want = {{DENIED, DENIED, DENIED}, {0, DENIED, DENIED}, {DENIED, 0, DENIED}, {0, 0, 0}};
        for (int file = 0; file < 3; file++) {
            for (int rights = 0; rights <= 3; rights++) {
                TicketRealm x = Scene.robbedService(0, 50);
                x.allow(2, file, rights);
                for (int operation = 1; operation <= 3; operation++) {
                    is("operation " + operation + " of file " + file + " with rights " + rights,
                            want[rights][operation - 1], Scene.served(x, operation, file, 1, 0));
                }
            }
        }
    }

    @Says("or has not the rights to the file (reading for READ, writing for WRITE, both for ADD).")
    void rightsToOtherFilesDoNotHelp() {
        for (int file = 0; file < 3; file++) {
            TicketRealm x = Scene.robbedService(0, 50);
            x.allow(2, file, 0);
            for (int other = 0; other < 3; other++) {
                is("READ " + other + " without a right to " + file, other == file ? DENIED : 0,
                        Scene.served(x, READ, other, 0, 0));
            }
        }
    }

    @Says("or has not the rights to the file (reading for READ, writing for WRITE, both for ADD).")
    void principalsThatAreNoUsersMayHaveRights() {
        TicketRealm x = Scene.robbedService(0, 50);
        for (int p = 0; p < 2; p++) {
            int ticket = x.forge(1, TICKET, p, 1, 50);
            int claim = x.forge(1, CLAIM, p, Scene.coded(WRITE, p, p + 8), 0);
            is("principal " + p + " has no right", DENIED, x.serve(ticket, claim));
            x.allow(p, p, 2);
            is("principal " + p + " has it", 0, x.serve(ticket, claim));
            is("file " + p, p + 8, x.look(0, p));
        }
    }

    @Says("FULL: twelve claims are in the cache.")
    void twelveAreInTheCache() {
        TicketRealm x = Scene.robbedService(1, 50);
        for (int i = 1; i <= MOST_CACHED; i++) {
            is("claim " + i, 0, Scene.served(x, ADD, 0, i, i % 2));
            is("in the cache", i, x.look(2, 0));
        }
        is("one more", FULL, Scene.served(x, ADD, 0, 99, 1));
        is("READ too", FULL, Scene.served(x, READ, 0, 0, 1));
        is("the file is as before", 78, x.look(0, 0));
        is("the answer too", 78, x.answer());
        is("the cache too", MOST_CACHED, x.look(2, 0));
    }

    @Says("FULL: twelve claims are in the cache.")
    void noRoomForSealsOrKeysIsNeeded() {
        TicketRealm x = Scene.robbedService(0, 50);
        int claim = Scene.claim(x, READ, 0, 0, 0);
        Scene.makeSeals(x, MOST_SEALS);
        Scene.makeKeys(x, MOST_KEYS);
        is("serve", 0, x.serve(0, claim));
    }

    @Says("Otherwise the claim goes into the cache, and it is done:")
    void theClaimGoesIntoTheCache() {
        TicketRealm x = Scene.robbedService(0, 50);
        for (int operation = 1; operation <= 3; operation++) {
            is("operation " + operation, 0, Scene.served(x, operation, 1, 7, 0));
            is("in the cache", operation, x.look(2, 0));
        }
    }

    @Says("READ, the answer is the file's value;")
    void readAnswersTheValue() {
        TicketRealm x = Scene.robbedService(0, 50);
        Scene.served(x, WRITE, 1, 7, 0);
        Scene.served(x, WRITE, 2, 8, 0);
        is("READ of file 1, the order's value is not looked at", 0, Scene.served(x, READ, 1, 99, 0));
        is("answer", 7, x.answer());
        is("READ of file 0", 0, Scene.served(x, READ, 0, 99, 0));
        is("answer of a new file", 0, x.answer());
        is("file 0 is as before", 0, x.look(0, 0));
        is("file 1 is as before", 7, x.look(0, 1));
        is("file 2 is as before", 8, x.look(0, 2));
    }

    @Says("WRITE, the value becomes that of the order;")
    void writeSetsTheValue() {
        TicketRealm x = Scene.robbedService(0, 50);
        is("WRITE", 0, Scene.served(x, WRITE, 1, 7, 0));
        is("file 1", 7, x.look(0, 1));
        is("WRITE over it", 0, Scene.served(x, WRITE, 1, -2, 0));
        is("file 1", -2, x.look(0, 1));
        is("the answer is the new value", -2, x.answer());
        is("file 0 is as before", 0, x.look(0, 0));
        is("file 2 is as before", 0, x.look(0, 2));
    }

    @Says("ADD, it grows by that (wrapping); the answer is the new value.")
    void addGrowsTheValue() {
        TicketRealm x = Scene.robbedService(0, 50);
        is("ADD", 0, Scene.served(x, ADD, 2, 40, 0));
        is("answer", 40, x.answer());
        is("ADD less than 0", 0, Scene.served(x, ADD, 2, -5, 0));
        is("answer", 35, x.answer());
        is("file 2", 35, x.look(0, 2));
        is("file 1 is as before", 0, x.look(0, 1));
    }

    /** Row: what is written, what is added, what is due. */
    @Says("ADD, it grows by that (wrapping); the answer is the new value.")
    void addWraps() {
        int[][] rows = {{MAX, 1, MIN}, {MIN, -1, MAX}, {MIN, MIN, 0}, {MAX, MAX, -2}, {1, MAX, MIN}};
        for (int[] row : rows) {
            TicketRealm x = Scene.enrolled(0);
            x.allow(2, 0, 3);
            int ticket = Scene.credential(x, 2, 1, 9);
            x.serve(ticket, x.order(2, WRITE, 0, row[0]));
            is("ADD " + row[1] + " to " + row[0], 0, x.serve(ticket, x.order(2, ADD, 0, row[1])));
            is("answer", row[2], x.answer());
            is("file", row[2], x.look(0, 0));
        }
    }

    @Says("Answers 0.")
    void answersZero() {
        TicketRealm x = Scene.robbedService(0, 50);
        for (int operation = 1; operation <= 3; operation++) {
            is("operation " + operation, 0, Scene.served(x, operation, 0, 7, 0));
        }
    }
}
