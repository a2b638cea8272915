@Section("Promise 20: seal")
final class Promise20Seal extends Sentences {
    /** Seals 0 to 3 are of the kinds 1 to 4; they were made at time 3, and END is 12. */
    private static TicketRealm oneOfEachKind() {
        TicketRealm x = Scene.enrolled(0);
        Scene.tickAll(x, 3);
        Scene.credential(x, 2, 1, 9);
        x.order(2, READ, 0, 0);
        return x;
    }

    private void shows(TicketRealm x, int what, int... want) {
        for (int seal = 0; seal < want.length; seal++) {
            is("seal(" + seal + ", " + what + ")", want[seal], x.seal(seal, what));
        }
    }

    @Says("What shows of a seal: its kind (what = 0),")
    void kind() {
        shows(oneOfEachKind(), 0, PROOF, TICKET, PART, CLAIM);
    }

    @Says("the END of a TICKET or PART (1, else 0),")
    void end() {
        shows(oneOfEachKind(), 1, 0, 12, 12, 0);
    }

    @Says("the time of a PROOF or CLAIM (2, else 0);")
    void time() {
        shows(oneOfEachKind(), 2, 3, 0, 0, 3);
    }

    @Says("What shows of a seal")
    void whatShowsStaysTheSame() {
        TicketRealm x = oneOfEachKind();
        Scene.tickAll(x, 1000);
        x.limit(2, 1);
        x.remove(2);
        shows(x, 0, PROOF, TICKET, PART, CLAIM);
        shows(x, 1, 0, 12, 12, 0);
        shows(x, 2, 3, 0, 0, 3);
    }

    @Says("UNKNOWN if there is no such seal")
    void noSuchSeal() {
        TicketRealm x = Scene.enrolled(0);
        for (int what = 0; what <= 2; what++) {
            is("no seals at all", UNKNOWN, x.seal(0, what));
        }
        x.login(2, 0);
        for (int seal : noSeals(x)) {
            for (int what = 0; what <= 2; what++) {
                is("seal(" + seal + ", " + what + ")", UNKNOWN, x.seal(seal, what));
            }
        }
    }

    @Says("UNKNOWN if there is no such seal")
    void theLastOfAllSeals() {
        TicketRealm x = Scene.enrolled(0);
        Scene.makeSeals(x, MOST_SEALS);
        is("the last", PROOF, x.seal(MOST_SEALS - 1, 0));
        is("beyond it", UNKNOWN, x.seal(MOST_SEALS, 0));
    }

    @Says("or what is none of these.")
    void noSuchWhat() {
        TicketRealm x = oneOfEachKind();
        for (int what : new int[] {MIN, -1, 3, MAX}) {
            shows(x, what, UNKNOWN, UNKNOWN, UNKNOWN, UNKNOWN);
        }
    }
}
