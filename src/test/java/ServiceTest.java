/** Promises 15 and 16: the file service. */
public final class ServiceTest {
    private static final Due due = new Due();

    public static void main(String[] args) {
        operationsAndAnswer();
        addWraps();
        badSeal();
        mismatch();
        lateByClaimsTime();
        lateByEnd();
        lateByStart();
        repeated();
        repeatedLooksAtEveryField();
        denied();
        deniedLooksAtTheBookAsItIsNow();
        principalsMayHaveRights();
        fullCache();
        cacheIsSweptFirst();
        reasonsInOrder();
        ownKeyNotTheBooks();
        due.end();
    }

    private static int code(int operation, int file, int value) {
        return operation | file << 2 | value << 4;
    }

    /** Seal 0 is a ticket of user 2 under the service's key 1, with that key as session key too. */
    private static TicketRealm withForgedTicket(int skew, int end) {
        TicketRealm x = Scene.enrolled(skew);
        for (int file = 0; file < 3; file++) {
            x.allow(2, file, 3);
        }
        x.steal(1);
        x.forge(1, 2, 2, 1, end);
        return x;
    }

    private static int serveForged(TicketRealm x, int operation, int file, int value, int time) {
        return x.serve(0, x.forge(1, 4, 2, code(operation, file, value), time));
    }

    private static void operationsAndAnswer() {
        TicketRealm x = withForgedTicket(0, 50);
        due.is("answer at first", 0, x.answer());
        due.is("WRITE", 0, serveForged(x, 2, 0, 40, 0));
        due.is("answer of WRITE", 40, x.answer());
        due.is("ADD", 0, serveForged(x, 3, 0, -5, 0));
        due.is("answer of ADD", 35, x.answer());
        due.is("WRITE file 2", 0, serveForged(x, 2, 2, 7, 0));
        due.is("answer of WRITE", 7, x.answer());
        due.is("READ", 0, serveForged(x, 1, 0, 99, 0));
        due.is("answer of READ", 35, x.answer());
        due.is("READ file 1", 0, serveForged(x, 1, 1, 0, 0));
        due.is("answer of READ of file 1", 0, x.answer());
        due.is("file 0", 35, x.look(0, 0));
        due.is("file 1", 0, x.look(0, 1));
        due.is("file 2", 7, x.look(0, 2));
        due.is("ADD again, with another time", TicketRealm.LATE, serveForged(x, 3, 0, 1, 1));
        due.is("a refused one has no answer", 0, x.answer());
        due.is("cache", 5, x.look(2, 0));
    }

    private static void addWraps() {
        TicketRealm x = Scene.enrolled(0);
        x.allow(2, 0, 3);
        int ticket = Scene.credential(x, 2, 1, 9);
        x.serve(ticket, x.order(2, 2, 0, Integer.MAX_VALUE));
        due.is("the greatest value", Integer.MAX_VALUE, x.answer());
        due.is("ADD", 0, x.serve(ticket, x.order(2, 3, 0, 1)));
        due.is("wraps", Integer.MIN_VALUE, x.answer());
        due.is("the file too", Integer.MIN_VALUE, x.look(0, 0));
        due.is("ADD the least", 0, x.serve(ticket, x.order(2, 3, 0, Integer.MIN_VALUE)));
        due.is("wraps to 0", 0, x.answer());
    }

    private static void badSeal() {
        TicketRealm x = new TicketRealm(0);
        due.is("no own key", TicketRealm.BAD_SEAL, x.serve(0, 0));
        due.is("nor with odd numbers", TicketRealm.BAD_SEAL, x.serve(-1, Integer.MAX_VALUE));
        x = withForgedTicket(0, 50);
        int claim = x.forge(1, 4, 2, code(2, 0, 1), 0);
        for (int bad : new int[] {Integer.MIN_VALUE, -1, 2, 150, Integer.MAX_VALUE}) {
            due.is("ticket " + bad, TicketRealm.BAD_SEAL, x.serve(bad, claim));
            due.is("claim " + bad, TicketRealm.BAD_SEAL, x.serve(0, bad));
        }
        due.is("a claim as ticket", TicketRealm.BAD_SEAL, x.serve(claim, claim));
        due.is("a ticket as claim", TicketRealm.BAD_SEAL, x.serve(0, 0));
        int proof = x.forge(1, 1, 2, 0, 0);
        due.is("a proof as claim", TicketRealm.BAD_SEAL, x.serve(0, proof));
        int part = x.forge(1, 3, 2, 1, 0);
        due.is("a part as ticket", TicketRealm.BAD_SEAL, x.serve(part, claim));
        x.steal(2);
        int underAnother = x.forge(2, 4, 2, code(2, 0, 1), 0);
        due.is("a claim under another key", TicketRealm.BAD_SEAL, x.serve(0, underAnother));
        int ticketUnderAnother = x.forge(2, 2, 2, 1, 50);
        due.is("a ticket under another key", TicketRealm.BAD_SEAL, x.serve(ticketUnderAnother, claim));
        int first = Scene.credential(x, 2, 0, 9);
        due.is("a ticket for 0", TicketRealm.BAD_SEAL, x.serve(first, x.ask(2, 0)));
        due.is("nothing was served", 0, x.look(2, 0));
        due.is("the right ones", 0, x.serve(0, claim));
    }

    private static void mismatch() {
        TicketRealm x = withForgedTicket(0, 50);
        for (int p = 0; p < 6; p++) {
            int want = p == 2 ? 0 : TicketRealm.MISMATCH;
            due.is("claim of " + p, want, x.serve(0, x.forge(1, 4, p, code(1, 0, 0), 0)));
        }
        due.is("operation 0", TicketRealm.MISMATCH, serveForged(x, 0, 0, 5, 0));
        due.is("cache", 1, x.look(2, 0));
    }

    private static void lateByClaimsTime() {
        TicketRealm x = withForgedTicket(2, 50);
        x.tick(1, 10);
        for (int time = 8; time <= 12; time++) {
            due.is("time " + time, 0, serveForged(x, 1, 0, 0, time));
        }
        for (int time : new int[] {Integer.MIN_VALUE, Integer.MIN_VALUE + 9, -10, 7, 13, Integer.MAX_VALUE}) {
            due.is("time " + time, TicketRealm.LATE, serveForged(x, 1, 0, 0, time));
        }
        due.is("cache", 5, x.look(2, 0));
    }

    private static void lateByEnd() {
        TicketRealm x = withForgedTicket(3, 10);
        x.tick(1, 10);
        due.is("at END", 0, serveForged(x, 1, 0, 0, 10));
        x.tick(1, 1);
        due.is("after END, though near", TicketRealm.LATE, serveForged(x, 1, 0, 0, 11));
        int longOver = x.forge(1, 2, 2, 1, Integer.MIN_VALUE);
        int claim = x.forge(1, 4, 2, code(1, 0, 0), 11);
        due.is("long after END", TicketRealm.LATE, x.serve(longOver, claim));
        due.is("long before END", 0, x.serve(x.forge(1, 2, 2, 1, Integer.MAX_VALUE), claim));
    }

    private static void lateByStart() {
        TicketRealm x = Scene.enrolled(3);
        x.allow(2, 0, 3);
        x.tick(0, 14);
        x.tick(2, 14);
        int ticket = Scene.credential(x, 2, 1, 9);
        x.steal(1);
        int key = x.learn(ticket);
        x.tick(1, 10);
        due.is("START is too far ahead", TicketRealm.LATE, x.serve(ticket, x.forge(key, 4, 2, code(1, 0, 0), 10)));
        x.tick(1, 1);
        due.is("START is ahead by SKEW", 0, x.serve(ticket, x.forge(key, 4, 2, code(1, 0, 0), 11)));
    }

    private static void repeated() {
        TicketRealm x = withForgedTicket(2, 50);
        int claim = x.forge(1, 4, 2, code(3, 0, 5), 2);
        int twin = x.forge(1, 4, 2, code(3, 0, 5), 2);
        due.is("once", 0, x.serve(0, claim));
        due.is("twice", TicketRealm.REPEATED, x.serve(0, claim));
        due.is("another seal with the same in it", TicketRealm.REPEATED, x.serve(0, twin));
        due.is("with another ticket", TicketRealm.REPEATED, x.serve(x.forge(1, 2, 2, 1, 9), claim));
        due.is("added once", 5, x.look(0, 0));
        due.is("cache", 1, x.look(2, 0));
        x.tick(1, 4);
        due.is("still in the cache at clock - SKEW", TicketRealm.REPEATED, x.serve(0, claim));
        x.tick(1, 1);
        due.is("late when it leaves it", TicketRealm.LATE, x.serve(0, claim));
        due.is("it has left", 0, x.look(2, 0));
    }

    private static void repeatedLooksAtEveryField() {
        TicketRealm x = withForgedTicket(5, 50);
        x.allow(3, 0, 3);
        due.is("the first", 0, serveForged(x, 3, 0, 1, 0));
        due.is("another time", 0, serveForged(x, 3, 0, 1, 1));
        due.is("another operation", 0, serveForged(x, 2, 0, 1, 0));
        due.is("another file", 0, serveForged(x, 3, 1, 1, 0));
        due.is("another value", 0, serveForged(x, 3, 0, 2, 0));
        int ticketOf3 = x.forge(1, 2, 3, 1, 50);
        due.is("another client", 0, x.serve(ticketOf3, x.forge(1, 4, 3, code(3, 0, 1), 0)));
        x.steal(0);
        int otherKey = x.forge(1, 2, 2, 0, 50);
        due.is("another key", 0, x.serve(otherKey, x.forge(0, 4, 2, code(3, 0, 1), 0)));
        due.is("the first again", TicketRealm.REPEATED, serveForged(x, 3, 0, 1, 0));
        x.login(2, 1);
        x.steal(2);
        x.receive(2, x.forge(2, 3, 0, 1, 1), 0);
        due.is("another serial", 0, x.serve(0, x.order(2, 3, 0, 1)));
        due.is("cache", 8, x.look(2, 0));
    }

    private static void denied() {
        for (int rights = 0; rights <= 3; rights++) {
            TicketRealm x = withForgedTicket(0, 50);
            x.allow(2, 1, rights);
            int read = rights == 1 || rights == 3 ? 0 : TicketRealm.DENIED;
            int write = rights >= 2 ? 0 : TicketRealm.DENIED;
            int add = rights == 3 ? 0 : TicketRealm.DENIED;
            due.is("READ with rights " + rights, read, serveForged(x, 1, 1, 1, 0));
            due.is("WRITE with rights " + rights, write, serveForged(x, 2, 1, 1, 0));
            due.is("ADD with rights " + rights, add, serveForged(x, 3, 1, 1, 0));
            due.is("cache with rights " + rights, new int[] {0, 1, 1, 3}[rights], x.look(2, 0));
            due.is("file with rights " + rights, new int[] {0, 0, 1, 2}[rights], x.look(0, 1));
        }
    }

    private static void deniedLooksAtTheBookAsItIsNow() {
        TicketRealm x = withForgedTicket(0, 50);
        int claim = x.forge(1, 4, 2, code(1, 0, 0), 0);
        x.save();
        x.remove(2);
        due.is("removed", TicketRealm.DENIED, x.serve(0, claim));
        x.enrol(2);
        due.is("enrolled anew, without rights", TicketRealm.DENIED, x.serve(0, claim));
        x.remove(2);
        x.crash();
        due.is("brought back", 0, x.serve(0, claim));
    }

    private static void principalsMayHaveRights() {
        TicketRealm x = withForgedTicket(0, 50);
        for (int p = 0; p < 2; p++) {
            int ticket = x.forge(1, 2, p, 1, 50);
            int claim = x.forge(1, 4, p, code(2, p, p + 8), 0);
            due.is("principal " + p + " has no right", TicketRealm.DENIED, x.serve(ticket, claim));
            x.allow(p, p, 2);
            due.is("principal " + p + " has it", 0, x.serve(ticket, claim));
            due.is("file " + p, p + 8, x.look(0, p));
        }
    }

    private static void fullCache() {
        TicketRealm x = withForgedTicket(1, 50);
        for (int i = 1; i <= 12; i++) {
            due.is("claim " + i, 0, serveForged(x, 3, 0, i, i % 2));
        }
        due.is("twelve", 12, x.look(2, 0));
        due.is("one more", TicketRealm.FULL, serveForged(x, 3, 0, 99, 1));
        due.is("REPEATED before FULL", TicketRealm.REPEATED, serveForged(x, 3, 0, 12, 0));
        x.allow(2, 0, 2);
        due.is("DENIED before FULL", TicketRealm.DENIED, serveForged(x, 3, 0, 98, 1));
        x.allow(2, 0, 3);
        due.is("the file is as before", 78, x.look(0, 0));
        due.is("the answer too", 78, x.answer());
        x.tick(1, 2);
        due.is("look sweeps nothing", 12, x.look(2, 0));
        due.is("room again", 0, serveForged(x, 3, 0, 99, 1));
        due.is("six of the old ones and the new one", 7, x.look(2, 0));
        due.is("a kept one is known", TicketRealm.REPEATED, serveForged(x, 3, 0, 11, 1));
        due.is("the new one is known", TicketRealm.REPEATED, serveForged(x, 3, 0, 99, 1));
    }

    private static void cacheIsSweptFirst() {
        TicketRealm x = withForgedTicket(2, 50);
        serveForged(x, 1, 0, 0, 0);
        serveForged(x, 1, 0, 0, 1);
        serveForged(x, 1, 0, 0, 2);
        x.tick(1, 2);
        due.is("refused", TicketRealm.BAD_SEAL, x.serve(-1, -1));
        due.is("all are kept", 3, x.look(2, 0));
        x.tick(1, 1);
        due.is("refused", TicketRealm.BAD_SEAL, x.serve(-1, -1));
        due.is("one has left", 2, x.look(2, 0));
        x.enrol(1);
        x.tick(1, 1);
        due.is("refused", TicketRealm.BAD_SEAL, x.serve(0, 1));
        due.is("another has left", 1, x.look(2, 0));
        x.tick(1, 1);
        due.is("refused", TicketRealm.BAD_SEAL, x.serve(0, 1));
        due.is("all have left", 0, x.look(2, 0));
    }

    private static void reasonsInOrder() {
        TicketRealm x = withForgedTicket(1, 5);
        int claim = x.forge(1, 4, 2, code(1, 0, 0), 1);
        x.serve(0, claim);
        x.allow(2, 0, 0);
        due.is("REPEATED before DENIED", TicketRealm.REPEATED, x.serve(0, claim));
        int lateOfAnother = x.forge(1, 4, 3, code(1, 0, 0), 90);
        due.is("MISMATCH before LATE", TicketRealm.MISMATCH, x.serve(0, lateOfAnother));
        int late = x.forge(1, 4, 2, code(1, 0, 0), 90);
        due.is("LATE before DENIED", TicketRealm.LATE, x.serve(0, late));
        int ended = x.forge(1, 2, 2, 1, -1);
        due.is("LATE before REPEATED", TicketRealm.LATE, x.serve(ended, claim));
    }

    private static void ownKeyNotTheBooks() {
        TicketRealm x = withForgedTicket(0, 50);
        x.save();
        x.enrol(1);
        x.crash();
        due.is("the own key is the new one", TicketRealm.BAD_SEAL, serveForged(x, 1, 0, 0, 0));
        x.remove(1);
        int key = x.steal(1);
        int ticket = x.forge(key, 2, 2, key, 50);
        due.is("also out of the book", 0, x.serve(ticket, x.forge(key, 4, 2, code(1, 0, 0), 0)));
    }
}
