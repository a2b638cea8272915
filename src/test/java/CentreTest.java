/** Promises 13 and 14: the key centre issues and grants tickets. */
public final class CentreTest {
    private static final Due due = new Due();

    public static void main(String[] args) {
        issueMakesTicketAndPart();
        issueEndIsTheLeast();
        issueUnknown();
        issueBadSealMismatchLate();
        issueFull();
        issueReasonsInOrder();
        issueUsesKeysOfTheBook();
        grantMakesTicketAndPart();
        grantEndForService();
        grantEndForCentre();
        lastIsByTheCentresClock();
        grantOfGranted();
        grantOfForgedTickets();
        grantUnknown();
        grantBadSeal();
        grantMismatch();
        grantLate();
        grantIsByTheCentresClock();
        grantFull();
        due.end();
    }

    private static void issueMakesTicketAndPart() {
        TicketRealm x = Scene.enrolled(0);
        x.tick(0, 6);
        x.tick(2, 6);
        x.login(2, 1);
        due.is("issue", 1, x.issue(2, 1, 77, 0, 5));
        due.is("first a TICKET", 2, x.seal(1, 0));
        due.is("then a PART", 3, x.seal(2, 0));
        due.is("END of the ticket", 11, x.seal(1, 1));
        due.is("END of the part", 11, x.seal(2, 1));
        due.is("seals", 3, x.look(6, 0));
        due.is("keys", 5, x.look(7, 0));
        due.is("the request stays open", 1, x.look(3, 2));
        x.steal(1);
        due.is("the ticket is under the target's key", 4, x.learn(1));
        due.is("the part is not", TicketRealm.BAD_SEAL, x.learn(2));
        x.steal(2);
        due.is("but under the client's", 4, x.learn(2));
        due.is("the nonce is as asked for", false, x.receive(2, 2, 1));
        due.is("a ticket for 0 is under its key", 3, x.issue(2, 0, 1, 0, 5));
        due.is("which is not stolen", TicketRealm.BAD_SEAL, x.learn(3));
        x.steal(0);
        due.is("but now", 5, x.learn(3));
    }

    private static void issueEndIsTheLeast() {
        int[][] rows = {{5, 30, 40, 5}, {50, 30, 40, 30}, {50, 40, 30, 30}, {1, 1, 1, 1},
            {Integer.MAX_VALUE, 1000, 999, 999}, {Integer.MAX_VALUE, 1000, 1000, 1000}};
        for (int target = 0; target < 2; target++) {
            for (int[] row : rows) {
                TicketRealm x = Scene.enrolled(0);
                Scene.tickAll(x, 100);
                x.limit(2, row[1]);
                x.limit(target, row[2]);
                due.is("END for " + target + " with life " + row[0], 100 + row[3],
                        Scene.endOfIssue(x, 2, target, row[0]));
            }
        }
    }

    private static void issueUnknown() {
        TicketRealm x = new TicketRealm(0);
        x.enrol(2);
        int proof = x.login(2, 0);
        due.is("0 is not in the book", TicketRealm.UNKNOWN, x.issue(2, 0, 1, proof, 5));
        due.is("1 is not in the book", TicketRealm.UNKNOWN, x.issue(2, 1, 1, proof, 5));
        x.enrol(0);
        x.enrol(1);
        for (int client : new int[] {Integer.MIN_VALUE, -1, 0, 1, 3, 6, Integer.MAX_VALUE}) {
            due.is("client " + client, TicketRealm.UNKNOWN, x.issue(client, 0, 1, proof, 5));
        }
        for (int target : new int[] {Integer.MIN_VALUE, -1, 2, 3, Integer.MAX_VALUE}) {
            due.is("target " + target, TicketRealm.UNKNOWN, x.issue(2, target, 1, proof, 5));
        }
        for (int life : new int[] {Integer.MIN_VALUE, -1, 0}) {
            due.is("life " + life, TicketRealm.UNKNOWN, x.issue(2, 0, 1, proof, life));
        }
        due.is("no seal", 1, x.look(6, 0));
        due.is("no key", 3, x.look(7, 0));
        due.is("life 1", 1, x.issue(2, 0, 1, proof, 1));
        x.remove(2);
        due.is("client removed", TicketRealm.UNKNOWN, x.issue(2, 0, 1, proof, 1));
    }

    private static void issueBadSealMismatchLate() {
        TicketRealm x = Scene.enrolled(2);
        int proof = x.login(2, 1);
        due.is("another's proof", TicketRealm.BAD_SEAL, x.issue(3, 1, 1, proof, 5));
        for (int bad : new int[] {Integer.MIN_VALUE, -1, 1, 150, Integer.MAX_VALUE}) {
            due.is("proof " + bad, TicketRealm.BAD_SEAL, x.issue(2, 1, 1, bad, 5));
        }
        x.steal(2);
        int claim = x.forge(2, 4, 2, 0, 0);
        due.is("a claim under the right key", TicketRealm.BAD_SEAL, x.issue(2, 1, 1, claim, 5));
        int of3 = x.forge(2, 1, 3, 0, 0);
        due.is("a proof of another client", TicketRealm.MISMATCH, x.issue(2, 1, 1, of3, 5));
        Scene.tickAll(x, 10);
        for (int time : new int[] {8, 9, 10, 11, 12}) {
            int near = x.forge(2, 1, 2, 0, time);
            due.is("time " + time, near + 1, x.issue(2, 1, 1, near, 5));
        }
        for (int time : new int[] {Integer.MIN_VALUE, -10, 7, 13, Integer.MAX_VALUE}) {
            int far = x.forge(2, 1, 2, 0, time);
            due.is("time " + time, TicketRealm.LATE, x.issue(2, 1, 1, far, 5));
        }
    }

    private static void issueFull() {
        TicketRealm x = Scene.enrolled(0);
        while (x.look(6, 0) < 148) {
            x.login(2, 1);
        }
        due.is("two seals have room", 148, x.issue(2, 1, 1, 0, 5));
        due.is("none has", TicketRealm.FULL, x.issue(2, 1, 1, 0, 5));
        TicketRealm y = Scene.enrolled(0);
        while (y.look(6, 0) < 149) {
            y.login(2, 1);
        }
        due.is("one alone has room", TicketRealm.FULL, y.issue(2, 1, 1, 0, 5));
        due.is("no seal", 149, y.look(6, 0));
        due.is("no key", 4, y.look(7, 0));
        TicketRealm z = Scene.enrolled(0);
        while (z.look(7, 0) < 199) {
            z.enrol(3);
        }
        z.login(2, 1);
        due.is("the last key", 1, z.issue(2, 1, 1, 0, 5));
        due.is("no key has room", TicketRealm.FULL, z.issue(2, 1, 1, 0, 5));
        due.is("no seal was made", 3, z.look(6, 0));
        due.is("keys", 200, z.look(7, 0));
    }

    private static void issueReasonsInOrder() {
        TicketRealm x = Scene.enrolled(0);
        x.steal(2);
        int late3 = x.forge(2, 1, 3, 0, 50);
        int late2 = x.forge(2, 1, 2, 0, 50);
        while (x.look(6, 0) < 150) {
            x.login(2, 1);
        }
        due.is("UNKNOWN first", TicketRealm.UNKNOWN, x.issue(2, 1, 1, -1, 0));
        due.is("then BAD_SEAL", TicketRealm.BAD_SEAL, x.issue(3, 1, 1, late3, 5));
        due.is("then MISMATCH", TicketRealm.MISMATCH, x.issue(2, 1, 1, late3, 5));
        due.is("then LATE", TicketRealm.LATE, x.issue(2, 1, 1, late2, 5));
        due.is("then FULL", TicketRealm.FULL, x.issue(2, 1, 1, 5, 5));
    }

    private static void issueUsesKeysOfTheBook() {
        TicketRealm x = Scene.enrolled(0);
        int proof = x.login(2, 1);
        x.save();
        x.enrol(1);
        x.enrol(2);
        x.crash();
        due.is("the proof under the key in the book", 1, x.issue(2, 1, 1, proof, 5));
        x.steal(1);
        x.steal(2);
        due.is("the ticket is not under the target's own key", TicketRealm.BAD_SEAL, x.learn(1));
        due.is("nor the part under the client's", TicketRealm.BAD_SEAL, x.learn(2));
        due.is("the request's key opens it", true, x.receive(2, 2, 1));
    }

    private static void grantMakesTicketAndPart() {
        TicketRealm x = Scene.enrolled(0);
        int first = Scene.credential(x, 2, 0, 15);
        int claim = x.ask(2, 1);
        due.is("grant", 4, x.grant(first, claim, 1, 2, 9));
        due.is("first a TICKET", 2, x.seal(4, 0));
        due.is("then a PART", 3, x.seal(5, 0));
        due.is("END of the ticket", 9, x.seal(4, 1));
        due.is("END of the part", 9, x.seal(5, 1));
        due.is("keys", 6, x.look(7, 0));
        x.steal(2);
        due.is("the part is not under the client's key", TicketRealm.BAD_SEAL, x.learn(5));
        due.is("the client's key opens the first part", 4, x.learn(2));
        due.is("and the session key in it the second", 5, x.learn(5));
        due.is("the ticket is not under them", TicketRealm.BAD_SEAL, x.learn(4));
        x.steal(1);
        due.is("but under the service's", 5, x.learn(4));
        due.is("receive", true, x.receive(2, 5, 4));
        x.allow(2, 0, 1);
        due.is("the client is that of the old ticket", 0, x.serve(4, x.order(2, 1, 0, 0)));
        due.is("the same claim again", 7, x.grant(first, claim, 0, 2, 9));
        due.is("for 0, not under the service's key", TicketRealm.BAD_SEAL, x.learn(7));
        x.steal(0);
        due.is("but under the centre's", 6, x.learn(7));
    }

    /** Row: limit of 2, limit of the target, life of the first ticket, ticks, life, END due. */
    private static void grantEndForService() {
        int[][] rows = {{20, 20, 15, 0, 99, 15}, {20, 20, 15, 10, 99, 15}, {20, 20, 15, 10, 4, 14},
            {20, 3, 15, 10, 99, 13}, {20, 20, 15, 15, 99, 15}, {2, 20, 15, 1, 99, 2},
            {20, 20, 15, 5, Integer.MAX_VALUE, 15}};
        for (int[] row : rows) {
            TicketRealm x = Scene.enrolled(0);
            x.limit(2, row[0]);
            x.limit(1, row[1]);
            int first = Scene.credential(x, 2, 0, row[2]);
            if (row[3] > 0) {
                Scene.tickAll(x, row[3]);
            }
            int ticket = x.grant(first, x.ask(2, 1), 1, 2, row[4]);
            due.is("END of row " + java.util.Arrays.toString(row), row[5], x.seal(ticket, 1));
            due.is("END of the part", row[5], x.seal(ticket + 1, 1));
        }
    }

    /** LAST of a ticket for 0 is START + 5 * limit, and further tickets for 0 may run until then. */
    private static void grantEndForCentre() {
        TicketRealm x = Scene.enrolled(0);
        x.limit(2, 10);
        Scene.tickAll(x, 100);
        int ticket = Scene.credential(x, 2, 0, 99);
        due.is("END of the first", 110, x.seal(ticket, 1));
        for (int end = 120; end <= 150; end += 10) {
            Scene.tickAll(x, 10);
            ticket = renewed(x, ticket, 99);
            due.is("END of a further one", end, x.seal(ticket, 1));
        }
        Scene.tickAll(x, 7);
        ticket = renewed(x, ticket, 99);
        due.is("END is LAST", 150, x.seal(ticket, 1));
        ticket = renewed(x, ticket, 1);
        due.is("life is looked at", 148, x.seal(ticket, 1));
        x.limit(2, 500);
        x.limit(0, 500);
        ticket = renewed(x, ticket, 999);
        due.is("a greater limit moves no LAST", 150, x.seal(ticket, 1));
        Scene.tickAll(x, 4);
        due.is("after LAST", TicketRealm.LATE, x.grant(ticket, x.ask(2, 0), 0, x.look(3, 2), 5));
    }

    private static void lastIsByTheCentresClock() {
        TicketRealm x = Scene.enrolled(0);
        x.limit(2, 10);
        x.tick(0, 7);
        x.tick(2, 7);
        int ticket = Scene.credential(x, 2, 0, 99);
        x.limit(2, 1000);
        x.limit(0, 1000);
        due.is("START + 5 * limit", 57, x.seal(renewed(x, ticket, 999), 1));
    }

    private static int renewed(TicketRealm x, int ticket, int life) {
        int next = x.grant(ticket, x.ask(2, 0), 0, x.look(3, 2), life);
        x.receive(2, next + 1, next);
        return next;
    }

    private static void grantOfGranted() {
        TicketRealm x = Scene.enrolled(0);
        int first = Scene.credential(x, 2, 0, 5);
        int second = renewed(x, first, 99);
        due.is("END beyond the first's", 20, x.seal(second, 1));
        int third = x.grant(second, x.ask(2, 1), 1, x.look(3, 2), 99);
        due.is("the service's ends with the second", 20, x.seal(third, 1));
        int fourth = x.grant(first, x.forge(0, 4, 2, 0, 0), 1, 9, 99);
        due.is("no forged claim without a stolen key", TicketRealm.BAD_SEAL, fourth);
    }

    /** LAST of a forged ticket is its END; a ticket for the service does not open with the key of 0. */
    private static void grantOfForgedTickets() {
        TicketRealm x = Scene.enrolled(0);
        x.steal(0);
        int forged = x.forge(0, 2, 2, 0, 6);
        int claim = x.forge(0, 4, 2, 0, 0);
        due.is("END is the forged LAST", 6, x.seal(x.grant(forged, claim, 0, 1, 99), 1));
        due.is("END is the forged END", 6, x.seal(x.grant(forged, claim, 1, 1, 99), 1));
        int far = x.forge(0, 2, 2, 0, Integer.MAX_VALUE);
        due.is("END of a far one", 20, x.seal(x.grant(far, claim, 0, 1, 99), 1));
        int again = x.grant(forged, claim, 1, 1, 99);
        due.is("a ticket for 1", TicketRealm.BAD_SEAL, x.grant(again, claim, 1, 1, 99));
        Scene.tickAll(x, 3);
        int viaService = x.forge(0, 2, 3, 0, 50);
        int of3 = x.forge(0, 4, 3, 0, 3);
        due.is("the client is the ticket's", true, x.grant(viaService, of3, 1, 1, 99) > 0);
    }

    private static void grantUnknown() {
        TicketRealm x = Scene.enrolled(0);
        int first = Scene.credential(x, 2, 0, 15);
        int claim = x.ask(2, 1);
        for (int target : new int[] {Integer.MIN_VALUE, -1, 2, 3, Integer.MAX_VALUE}) {
            due.is("target " + target, TicketRealm.UNKNOWN, x.grant(first, claim, target, 2, 5));
        }
        for (int life : new int[] {Integer.MIN_VALUE, -1, 0}) {
            due.is("life " + life, TicketRealm.UNKNOWN, x.grant(first, claim, 1, 2, life));
        }
        x.save();
        x.remove(1);
        due.is("1 is not in the book", TicketRealm.UNKNOWN, x.grant(first, claim, 1, 2, 5));
        x.crash();
        x.remove(0);
        due.is("0 is not in the book", TicketRealm.UNKNOWN, x.grant(first, claim, 1, 2, 5));
        due.is("UNKNOWN before BAD_SEAL", TicketRealm.UNKNOWN, x.grant(-1, -1, 1, 2, 5));
        x.crash();
        due.is("no seal was made", 4, x.look(6, 0));
        due.is("life 1", 4, x.grant(first, claim, 1, 2, 1));
    }

    private static void grantBadSeal() {
        TicketRealm x = Scene.enrolled(0);
        int first = Scene.credential(x, 2, 0, 15);
        int claim = x.ask(2, 1);
        int other = Scene.credential(x, 3, 0, 15);
        for (int bad : new int[] {Integer.MIN_VALUE, -1, x.look(6, 0), 150, Integer.MAX_VALUE}) {
            due.is("ticket " + bad, TicketRealm.BAD_SEAL, x.grant(bad, claim, 1, 2, 5));
            due.is("claim " + bad, TicketRealm.BAD_SEAL, x.grant(first, bad, 1, 2, 5));
        }
        due.is("a part as ticket", TicketRealm.BAD_SEAL, x.grant(first + 1, claim, 1, 2, 5));
        due.is("a ticket as claim", TicketRealm.BAD_SEAL, x.grant(first, first, 1, 2, 5));
        due.is("another's ticket", TicketRealm.BAD_SEAL, x.grant(other, claim, 1, 2, 5));
        x.steal(0);
        int proof = x.forge(0, 1, 2, 0, 0);
        int own = x.forge(0, 2, 2, 0, 9);
        due.is("a proof as claim", TicketRealm.BAD_SEAL, x.grant(own, proof, 1, 2, 5));
        x.save();
        x.enrol(0);
        due.is("a new key of 0", TicketRealm.BAD_SEAL, x.grant(first, claim, 1, 2, 5));
        x.crash();
        due.is("the key in the book, not the own one", own + 1, x.grant(first, claim, 1, 2, 5));
    }

    private static void grantMismatch() {
        TicketRealm x = Scene.enrolled(0);
        x.steal(0);
        int ticket = x.forge(0, 2, 2, 0, 9);
        int of3 = x.forge(0, 4, 3, 0, 0);
        int of2 = x.forge(0, 4, 2, 0, 0);
        due.is("clients differ", TicketRealm.MISMATCH, x.grant(ticket, of3, 1, 2, 5));
        for (int operation = 1; operation <= 3; operation++) {
            int order = x.forge(0, 4, 2, operation, 0);
            due.is("operation " + operation, TicketRealm.MISMATCH, x.grant(ticket, order, 1, 2, 5));
        }
        int fileAndValue = x.forge(0, 4, 2, 5 << 2, 0);
        due.is("file and value are not looked at", fileAndValue + 1, x.grant(ticket, fileAndValue, 1, 2, 5));
        for (int p : new int[] {0, 1, 4}) {
            int ofP = x.forge(0, 2, p, 0, 9);
            due.is("client " + p, TicketRealm.MISMATCH, x.grant(ofP, x.forge(0, 4, p, 0, 0), 1, 2, 5));
        }
        x.remove(2);
        due.is("the client is removed", TicketRealm.MISMATCH, x.grant(ticket, of2, 1, 2, 5));
        int lateOf3 = x.forge(0, 4, 3, 0, 90);
        due.is("MISMATCH before LATE", TicketRealm.MISMATCH, x.grant(ticket, lateOf3, 1, 2, 5));
    }

    private static void grantLate() {
        TicketRealm x = Scene.enrolled(2);
        x.steal(0);
        Scene.tickAll(x, 10);
        int ticket = x.forge(0, 2, 2, 0, 10);
        for (int time = 8; time <= 12; time++) {
            int claim = x.forge(0, 4, 2, 0, time);
            due.is("time " + time, claim + 1, x.grant(ticket, claim, 1, 2, 5));
        }
        for (int time : new int[] {Integer.MIN_VALUE, -10, 7, 13, Integer.MAX_VALUE}) {
            due.is("time " + time, TicketRealm.LATE, x.grant(ticket, x.forge(0, 4, 2, 0, time), 1, 2, 5));
        }
        int ended = x.forge(0, 2, 2, 0, 9);
        int claim = x.forge(0, 4, 2, 0, 10);
        due.is("END is over", TicketRealm.LATE, x.grant(ended, claim, 1, 2, 5));
        int longOver = x.forge(0, 2, 2, 0, Integer.MIN_VALUE);
        due.is("END is long over", TicketRealm.LATE, x.grant(longOver, claim, 1, 2, 5));
    }

    private static void grantIsByTheCentresClock() {
        TicketRealm x = Scene.enrolled(0);
        x.tick(0, 4);
        x.tick(2, 4);
        int first = Scene.credential(x, 2, 0, 3);
        due.is("the service's clock is behind", 4, x.grant(first, x.ask(2, 1), 1, 2, 5));
        x.tick(1, 90);
        due.is("the service's clock is ahead", 7, x.grant(first, x.ask(2, 1), 1, 3, 5));
        x.tick(0, 4);
        x.tick(2, 4);
        due.is("END is over, though LAST is not", TicketRealm.LATE, x.grant(first, x.ask(2, 0), 0, 4, 5));
    }

    private static void grantFull() {
        for (int seals = 148; seals <= 150; seals++) {
            TicketRealm x = Scene.enrolled(0);
            int first = Scene.credential(x, 2, 0, 15);
            int claim = x.ask(2, 1);
            while (x.look(6, 0) < seals) {
                x.login(3, 1);
            }
            int want = seals == 148 ? 148 : TicketRealm.FULL;
            due.is("with seals " + seals, want, x.grant(first, claim, 1, 2, 5));
            due.is("seals after it", seals == 148 ? 150 : seals, x.look(6, 0));
            due.is("keys after it", seals == 148 ? 6 : 5, x.look(7, 0));
        }
        TicketRealm x = Scene.enrolled(0);
        int first = Scene.credential(x, 2, 0, 15);
        int claim = x.ask(2, 1);
        while (x.look(7, 0) < 199) {
            x.enrol(3);
        }
        due.is("the last key", 4, x.grant(first, claim, 1, 2, 5));
        due.is("no key has room", TicketRealm.FULL, x.grant(first, claim, 1, 2, 5));
        Scene.tickAll(x, 1);
        due.is("LATE before FULL", TicketRealm.LATE, x.grant(first, claim, 1, 2, 5));
    }
}
