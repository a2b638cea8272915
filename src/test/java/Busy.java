import java.util.ArrayList;
import java.util.List;

/**
 * A realm in which much has happened, for tests that hold it against a twin made in the same way.
 * All clocks are 10 and SKEW is 1. Of the keys, 0, 1 and 2 are stolen. User 2 has credentials for
 * both targets; 3 has an open request that has been answered, and so has 4, by its credential for 0;
 * 5 has no key. The saved book is not the book. Three claims are in the cache.
 */
final class Busy {
    /** What there is no room for any more. */
    enum Lack { NOTHING, SEALS, TWO_SEALS, KEYS, CACHE }

    static final int SERVICE_TICKET = 0, OWN_TICKET_OF_2 = 2, SERVED = 7, PROOF_OF_3 = 9, TICKET_OF_3 = 10,
            PART_OF_3 = 11, TICKET_OF_4 = 16, PART_OF_4 = 17, ORDER_OF_2 = 19;
    /** Forged for the service, with its key. */
    static final int CLAIM_OF_3 = 20, CLAIM_WITHOUT_ORDER = 21, LATE_CLAIM = 22, CLAIM_WITHOUT_RIGHT = 23,
            NEW_CLAIM = 24;
    /** Forged for the key centre, with the key of user 2. */
    static final int PROOF_OF_ANOTHER = 25, LATE_PROOF = 26, NEW_PROOF = 27;
    /** Forged for the key centre, with its key. */
    static final int CENTRE_TICKET = 28, ENDED_TICKET = 29, TICKET_OF_5 = 30, REQUEST_OF_3 = 31,
            REQUEST_WITH_ORDER = 32, LATE_REQUEST = 33, NEW_REQUEST = 34, REQUEST_OF_5 = 35;
    static final int PART_WITH_ANOTHER_NONCE = 37, PART_FOR_ANOTHER_TARGET = 39, SEALS = 40;

    static final int PROBES = 7;

    private static final int PROOF = 1, TICKET = 2, CLAIM = 4, READ = 1, WRITE = 2, ADD = 3;

    private Busy() {
    }

    static TicketRealm lacking(Lack lack) {
        TicketRealm x = Scene.robbedService(1, 500);
        fillBook(x);
        usersAtWork(x);
        forgeSeals(x);
        switch (lack) {
            case SEALS:
                Scene.makeSeals(x, 150);
                break;
            case TWO_SEALS:
                Scene.makeSeals(x, 149);
                break;
            case KEYS:
                Scene.makeKeys(x, 200);
                break;
            case CACHE:
                for (int i = 3; i < 12; i++) {
                    Scene.served(x, READ, 0, 100 + i, 10);
                }
                break;
            default:
        }
        return x;
    }

    private static void fillBook(TicketRealm x) {
        x.enrol(4);
        x.limit(2, 30);
        x.save();
        x.limit(2, 40);
        x.limit(3, 50);
        x.allow(2, 2, 1);
        x.allow(3, 1, 2);
        Scene.tickAll(x, 10);
    }

    private static void usersAtWork(TicketRealm x) {
        Scene.credential(x, 2, 0, 35);
        Scene.credential(x, 2, 1, 35);
        Scene.served(x, ADD, 0, 7, 10);
        Scene.served(x, WRITE, 1, 8, 11);
        x.login(3, 1);
        x.issue(3, 1, 3, PROOF_OF_3, 25);
        Scene.credential(x, 4, 0, 20);
        x.grant(x.look(4, 4), x.ask(4, 1), 1, x.look(3, 4), 15);
        Scene.served(x, READ, 1, 0, 9);
        x.order(2, ADD, 0, 5);
    }

    private static void forgeSeals(TicketRealm x) {
        x.forge(1, CLAIM, 3, READ, 10);
        Scene.claim(x, 0, 0, 0, 10);
        Scene.claim(x, READ, 0, 0, 50);
        Scene.claim(x, WRITE, 2, 0, 10);
        Scene.claim(x, READ, 0, 55, 10);
        x.steal(2);
        x.forge(2, PROOF, 3, 0, 10);
        x.forge(2, PROOF, 2, 0, 50);
        x.forge(2, PROOF, 2, 0, 10);
        x.steal(0);
        x.forge(0, TICKET, 2, 0, 500);
        x.forge(0, TICKET, 2, 0, 5);
        x.forge(0, TICKET, 5, 0, 500);
        x.forge(0, CLAIM, 3, 0, 10);
        x.forge(0, CLAIM, 2, READ, 10);
        x.forge(0, CLAIM, 2, 0, 50);
        x.forge(0, CLAIM, 2, 0, 10);
        x.forge(0, CLAIM, 5, 0, 10);
        x.issue(3, 1, 99, PROOF_OF_3, 25);
        x.issue(3, 0, 3, PROOF_OF_3, 25);
    }

    /** What a busy realm answers to calls that bring one part of its state to light. */
    static List<Integer> probed(TicketRealm x, int probe) {
        List<Integer> answers = new ArrayList<>();
        switch (probe) {
            case 0:
                shown(x, answers);
                break;
            case 1:
                numbers(x, answers);
                break;
            case 2:
                book(x, answers);
                break;
            case 3:
                answers.add(x.crash());
                book(x, answers);
                break;
            case 4:
                usersGoOn(x, answers);
                break;
            case 5:
                stolenKeys(x, answers);
                break;
            default:
                cachedClaims(x, answers);
        }
        return answers;
    }

    private static void shown(TicketRealm x, List<Integer> answers) {
        for (int what = 0; what <= 7; what++) {
            for (int i = 0; i < 6; i++) {
                answers.add(x.look(what, i));
            }
        }
        for (int seal = 0; seal <= SEALS; seal++) {
            for (int what = 0; what <= 2; what++) {
                answers.add(x.seal(seal, what));
            }
        }
        answers.add(x.answer());
    }

    private static void numbers(TicketRealm x, List<Integer> answers) {
        answers.add(x.login(2, 1));
        answers.add(x.look(3, 2));
        answers.add(x.enrol(5));
        answers.add(x.login(5, 1));
        answers.add(x.look(3, 5));
        answers.add(x.enrol(5));
    }

    private static void book(TicketRealm x, List<Integer> answers) {
        for (int u = 2; u <= 5; u++) {
            for (int target = 0; target < 2; target++) {
                answers.add(x.issue(u, target, 1, x.login(u, target), 1000));
                answers.add(x.seal(x.look(6, 0) - 1, 1));
            }
        }
        for (int operation = READ; operation <= ADD; operation++) {
            x.tick(1, 100);
            for (int u = 2; u <= 5; u++) {
                int ticket = x.forge(1, TICKET, u, 1, 1000);
                for (int file = 0; file < 3; file++) {
                    int time = 10 + 100 * operation;
                    answers.add(x.serve(ticket, x.forge(1, CLAIM, u, Scene.coded(operation, file, 3), time)));
                }
            }
        }
        for (int p = 0; p < 6; p++) {
            answers.add(x.remove(p) ? 1 : 0);
        }
    }

    private static void usersGoOn(TicketRealm x, List<Integer> answers) {
        answers.add(x.receive(3, PART_OF_3, TICKET_OF_3) ? 1 : 0);
        answers.add(x.look(5, 3));
        answers.add(x.serve(TICKET_OF_3, x.order(3, WRITE, 1, 77)));
        answers.add(x.receive(4, PART_OF_4, TICKET_OF_4) ? 1 : 0);
        answers.add(x.look(5, 4));
        answers.add(x.serve(TICKET_OF_4, x.order(4, WRITE, 1, 77)));
        answers.add(x.grant(OWN_TICKET_OF_2, x.ask(2, 1), 1, 1, 9));
        answers.add(x.serve(x.look(5, 2), x.order(2, WRITE, 1, 78)));
        answers.add(x.look(0, 1));
    }

    private static void stolenKeys(TicketRealm x, List<Integer> answers) {
        for (int key = -1; key <= 200; key++) {
            answers.add(x.forge(key, PROOF, 2, 0, 0));
        }
    }

    private static void cachedClaims(TicketRealm x, List<Integer> answers) {
        for (int claim = 0; claim < SEALS; claim++) {
            answers.add(x.serve(SERVICE_TICKET, claim));
            answers.add(x.look(2, 0));
        }
        answers.add(x.serve(x.look(5, 2), ORDER_OF_2));
        answers.add(x.answer());
    }
}
