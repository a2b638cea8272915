import java.util.List;
import java.util.function.ToIntFunction;

/**
 * Every refusal of every call, on a busy realm: afterwards the realm answers as a twin that was never
 * asked does.
 */
@Section("Terms")
final class TermsNothingChanged extends Sentences {
    private void refused(Busy.Lack lack, String call, int want, ToIntFunction<TicketRealm> on) {
        for (int probe = 0; probe < Busy.PROBES; probe++) {
            TicketRealm x = Busy.lacking(lack);
            List<Integer> twins = Busy.probed(Busy.lacking(lack), probe);
            is(call, want, on.applyAsInt(x));
            List<Integer> own = Busy.probed(x, probe);
            for (int i = 0; i < own.size(); i++) {
                is(call + ", answer " + i + " of probe " + probe + " after it", twins.get(i), own.get(i));
            }
        }
    }

    private void refused(String call, int want, ToIntFunction<TicketRealm> on) {
        refused(Busy.Lack.NOTHING, call, want, on);
    }

    private static int number(boolean answer) {
        return answer ? 1 : 0;
    }

    @Says("A call that is refused changes nothing, and uses no numbers.")
    void theSceneIsAsItIsSaidToBe() {
        TicketRealm x = Busy.lacking(Busy.Lack.NOTHING);
        is("seals", Busy.SEALS, x.look(6, 0));
        is("keys", 12, x.look(7, 0));
        is("cache", 3, x.look(2, 0));
        is("answer", 8, x.answer());
        is("request of 3", 3, x.look(3, 3));
        is("request of 4", 5, x.look(3, 4));
        is("credential of 2 for 0", Busy.OWN_TICKET_OF_2, x.look(4, 2));
        is("answer to 3", true, x.receive(3, Busy.PART_OF_3, Busy.TICKET_OF_3));
        is("answer to 4", true, x.receive(4, Busy.PART_OF_4, Busy.TICKET_OF_4));
        is("order of 2", 0, x.serve(x.look(5, 2), Busy.ORDER_OF_2));
        is("new claim", 0, x.serve(Busy.SERVICE_TICKET, Busy.NEW_CLAIM));
        is("new proof", Busy.SEALS, x.issue(2, 1, 1, Busy.NEW_PROOF, 5));
        is("new request", Busy.SEALS + 2, x.grant(Busy.CENTRE_TICKET, Busy.NEW_REQUEST, 1, 1, 5));
    }

    @Says("A call that is refused changes nothing, and uses no numbers.")
    void enrol() {
        for (int p : NO_PRINCIPALS) {
            refused("enrol(" + p + ")", UNKNOWN, x -> x.enrol(p));
        }
        refused(Busy.Lack.KEYS, "enrol(2)", FULL, x -> x.enrol(2));
        refused(Busy.Lack.KEYS, "enrol(4)", FULL, x -> x.enrol(4));
    }

    @Says("A call that is refused changes nothing, and uses no numbers.")
    void removeLimitAndAllow() {
        refused("remove(5)", 0, x -> number(x.remove(5)));
        refused("limit(5, 9)", 0, x -> number(x.limit(5, 9)));
        refused("allow(5, 0, 3)", 0, x -> number(x.allow(5, 0, 3)));
        for (int p : NO_PRINCIPALS) {
            refused("remove(" + p + ")", 0, x -> number(x.remove(p)));
            refused("limit(" + p + ", 9)", 0, x -> number(x.limit(p, 9)));
            refused("allow(" + p + ", 0, 3)", 0, x -> number(x.allow(p, 0, 3)));
        }
        for (int n : NO_STEPS) {
            refused("limit(2, " + n + ")", 0, x -> number(x.limit(2, n)));
        }
        for (int file : NO_FILES) {
            refused("allow(2, " + file + ", 0)", 0, x -> number(x.allow(2, file, 0)));
        }
        refused("allow(2, 0, -1)", 0, x -> number(x.allow(2, 0, -1)));
        refused("allow(2, 0, 4)", 0, x -> number(x.allow(2, 0, 4)));
    }

    @Says("A call that is refused changes nothing, and uses no numbers.")
    void tick() {
        for (int p : NO_PRINCIPALS) {
            refused("tick(" + p + ", 1)", UNKNOWN, x -> x.tick(p, 1));
        }
        for (int n : NO_STEPS) {
            refused("tick(2, " + n + ")", UNKNOWN, x -> x.tick(2, n));
        }
    }

    @Says("A call that is refused changes nothing, and uses no numbers.")
    void loginAndAsk() {
        for (int u : NO_USERS) {
            refused("login(" + u + ", 0)", UNKNOWN, x -> x.login(u, 0));
            refused("ask(" + u + ", 0)", UNKNOWN, x -> x.ask(u, 0));
        }
        for (int target : NO_TARGETS) {
            refused("login(3, " + target + ")", UNKNOWN, x -> x.login(3, target));
            refused("ask(4, " + target + ")", UNKNOWN, x -> x.ask(4, target));
        }
        refused("login(5, 0)", UNKNOWN, x -> x.login(5, 0));
        refused("ask(3, 0)", UNKNOWN, x -> x.ask(3, 0));
        refused(Busy.Lack.SEALS, "login(4, 0)", FULL, x -> x.login(4, 0));
        refused(Busy.Lack.SEALS, "ask(4, 0)", FULL, x -> x.ask(4, 0));
    }

    @Says("A call that is refused changes nothing, and uses no numbers.")
    void receive() {
        int[][] rows = {{2, Busy.PART_OF_3, Busy.TICKET_OF_3}, {3, Busy.PART_OF_3, -1},
            {3, Busy.PART_OF_3, Busy.SEALS}, {3, -1, Busy.TICKET_OF_3}, {3, Busy.SEALS, Busy.TICKET_OF_3},
            {3, Busy.TICKET_OF_3, Busy.TICKET_OF_3}, {3, Busy.PROOF_OF_3, Busy.TICKET_OF_3},
            {3, Busy.PART_WITH_ANOTHER_NONCE, Busy.TICKET_OF_3}, {3, Busy.PART_FOR_ANOTHER_TARGET, Busy.TICKET_OF_3},
            {3, Busy.PART_OF_4, Busy.TICKET_OF_4}, {4, Busy.PART_OF_3, Busy.TICKET_OF_3},
            {1, Busy.PART_OF_3, Busy.TICKET_OF_3}, {6, Busy.PART_OF_3, Busy.TICKET_OF_3}};
        for (int[] row : rows) {
            refused("receive(" + row[0] + ", " + row[1] + ", " + row[2] + ")", 0,
                    x -> number(x.receive(row[0], row[1], row[2])));
        }
    }

    @Says("A call that is refused changes nothing, and uses no numbers.")
    void order() {
        for (int u : NO_USERS) {
            refused("order(" + u + ", 1, 0, 0)", UNKNOWN, x -> x.order(u, READ, 0, 0));
        }
        refused("order(3, 1, 0, 0)", UNKNOWN, x -> x.order(3, READ, 0, 0));
        refused("order(2, 0, 0, 0)", UNKNOWN, x -> x.order(2, 0, 0, 0));
        refused("order(2, 4, 0, 0)", UNKNOWN, x -> x.order(2, 4, 0, 0));
        for (int file : NO_FILES) {
            refused("order(2, 1, " + file + ", 0)", UNKNOWN, x -> x.order(2, READ, file, 0));
        }
        refused(Busy.Lack.SEALS, "order(2, 1, 0, 0)", FULL, x -> x.order(2, READ, 0, 0));
    }

    @Says("A call that is refused changes nothing, and uses no numbers.")
    void issue() {
        refused("no client", UNKNOWN, x -> x.issue(5, 1, 1, Busy.NEW_PROOF, 5));
        refused("no target", UNKNOWN, x -> x.issue(2, 2, 1, Busy.NEW_PROOF, 5));
        refused("no life", UNKNOWN, x -> x.issue(2, 1, 1, Busy.NEW_PROOF, 0));
        refused("no seal", BAD_SEAL, x -> x.issue(2, 1, 1, -1, 5));
        refused("another's proof", BAD_SEAL, x -> x.issue(2, 1, 1, Busy.PROOF_OF_3, 5));
        refused("another client", MISMATCH, x -> x.issue(2, 1, 1, Busy.PROOF_OF_ANOTHER, 5));
        refused("late", LATE, x -> x.issue(2, 1, 1, Busy.LATE_PROOF, 5));
        for (Busy.Lack lack : new Busy.Lack[] {Busy.Lack.SEALS, Busy.Lack.TWO_SEALS, Busy.Lack.KEYS}) {
            refused(lack, "full", FULL, x -> x.issue(2, 1, 1, Busy.NEW_PROOF, 5));
        }
    }

    @Says("A call that is refused changes nothing, and uses no numbers.")
    void grant() {
        refused("no target", UNKNOWN, x -> x.grant(Busy.CENTRE_TICKET, Busy.NEW_REQUEST, 2, 1, 5));
        refused("no life", UNKNOWN, x -> x.grant(Busy.CENTRE_TICKET, Busy.NEW_REQUEST, 1, 1, 0));
        refused("no ticket", BAD_SEAL, x -> x.grant(-1, Busy.NEW_REQUEST, 1, 1, 5));
        refused("no ticket for 0", BAD_SEAL, x -> x.grant(Busy.SERVICE_TICKET, Busy.NEW_REQUEST, 1, 1, 5));
        refused("no claim", BAD_SEAL, x -> x.grant(Busy.CENTRE_TICKET, -1, 1, 1, 5));
        refused("no claim for it", BAD_SEAL, x -> x.grant(Busy.CENTRE_TICKET, Busy.NEW_CLAIM, 1, 1, 5));
        refused("another client", MISMATCH, x -> x.grant(Busy.CENTRE_TICKET, Busy.REQUEST_OF_3, 1, 1, 5));
        refused("an order", MISMATCH, x -> x.grant(Busy.CENTRE_TICKET, Busy.REQUEST_WITH_ORDER, 1, 1, 5));
        refused("not in the book", MISMATCH, x -> x.grant(Busy.TICKET_OF_5, Busy.REQUEST_OF_5, 1, 1, 5));
        refused("late", LATE, x -> x.grant(Busy.CENTRE_TICKET, Busy.LATE_REQUEST, 1, 1, 5));
        refused("ended", LATE, x -> x.grant(Busy.ENDED_TICKET, Busy.NEW_REQUEST, 1, 1, 5));
        for (Busy.Lack lack : new Busy.Lack[] {Busy.Lack.SEALS, Busy.Lack.TWO_SEALS, Busy.Lack.KEYS}) {
            refused(lack, "full", FULL, x -> x.grant(Busy.CENTRE_TICKET, Busy.NEW_REQUEST, 1, 1, 5));
        }
    }

    /** No claim in the cache is old here, so that none leaves it. */
    @Says("A call that is refused changes nothing, and uses no numbers.")
    void serve() {
        refused("no ticket", BAD_SEAL, x -> x.serve(-1, Busy.NEW_CLAIM));
        refused("no ticket for 1", BAD_SEAL, x -> x.serve(Busy.CENTRE_TICKET, Busy.NEW_REQUEST));
        refused("no claim", BAD_SEAL, x -> x.serve(Busy.SERVICE_TICKET, MAX));
        refused("no claim for it", BAD_SEAL, x -> x.serve(Busy.SERVICE_TICKET, Busy.NEW_REQUEST));
        refused("another client", MISMATCH, x -> x.serve(Busy.SERVICE_TICKET, Busy.CLAIM_OF_3));
        refused("no order", MISMATCH, x -> x.serve(Busy.SERVICE_TICKET, Busy.CLAIM_WITHOUT_ORDER));
        refused("late", LATE, x -> x.serve(Busy.SERVICE_TICKET, Busy.LATE_CLAIM));
        refused("repeated", REPEATED, x -> x.serve(Busy.SERVICE_TICKET, Busy.SERVED));
        refused("denied", DENIED, x -> x.serve(Busy.SERVICE_TICKET, Busy.CLAIM_WITHOUT_RIGHT));
        refused(Busy.Lack.CACHE, "full", FULL, x -> x.serve(Busy.SERVICE_TICKET, Busy.NEW_CLAIM));
    }

    @Says("A call that is refused changes nothing, and uses no numbers.")
    void stealLearnAndForge() {
        for (int p : new int[] {MIN, -1, 5, 6, MAX}) {
            refused("steal(" + p + ")", UNKNOWN, x -> x.steal(p));
        }
        for (int seal : new int[] {MIN, -1, Busy.SEALS, MAX}) {
            refused("learn(" + seal + ")", UNKNOWN, x -> x.learn(seal));
        }
        for (int seal : new int[] {Busy.PROOF_OF_3, Busy.PART_OF_3, Busy.PART_OF_4, Busy.ORDER_OF_2}) {
            refused("learn(" + seal + ")", BAD_SEAL, x -> x.learn(seal));
        }
        refused("forge of no kind", UNKNOWN, x -> x.forge(2, 0, 2, 2, 0));
        refused("forge of no client", UNKNOWN, x -> x.forge(2, PROOF, 6, 2, 0));
        refused("forge under key 3", BAD_SEAL, x -> x.forge(3, PROOF, 2, 2, 0));
        refused("forge with key 3", BAD_SEAL, x -> x.forge(2, TICKET, 2, 3, 0));
        refused(Busy.Lack.SEALS, "forge", FULL, x -> x.forge(2, PROOF, 2, 2, 0));
    }

    @Says("A call that is refused changes nothing, and uses no numbers.")
    void sealAndLook() {
        refused("seal(-1, 0)", UNKNOWN, x -> x.seal(-1, 0));
        refused("seal(0, 3)", UNKNOWN, x -> x.seal(0, 3));
        refused("look(8, 0)", UNKNOWN, x -> x.look(8, 0));
        refused("look(5, 5)", UNKNOWN, x -> x.look(5, 5));
    }
}
