@Section("Promise 4: limit")
final class Promise04Limit extends Sentences {
    @Says("The limit of p in the book becomes n: true;")
    void becomesN() {
        TicketRealm x = Scene.enrolled(0);
        x.limit(1, 1000);
        for (int n : new int[] {1, 2, 19, 21, 999, 1000, 20}) {
            is("limit " + n, true, x.limit(2, n));
            is("END by it", n, Scene.endOfIssue(x, 2, 1, 5000));
        }
        is("of user 2 alone", 20, Scene.endOfIssue(x, 3, 1, 5000));
        is("limit of the target", true, x.limit(0, 3));
        is("END by it", 3, Scene.endOfIssue(x, 2, 0, 5000));
    }

    @Says("refused with false if p is not in it")
    void whoIsNotInTheBook() {
        TicketRealm x = Scene.enrolled(0);
        for (int p : NO_PRINCIPALS) {
            is("limit of " + p, false, x.limit(p, 5));
        }
        is("never enrolled", false, x.limit(4, 5));
        x.enrol(4);
        is("enrolled after that, it has the first limit", 20, Scene.endOfIssue(x, 4, 1, 500));
        x.remove(3);
        is("removed", false, x.limit(3, 5));
        x.enrol(3);
        is("enrolled again, it has the first limit", 20, Scene.endOfIssue(x, 3, 1, 500));
    }

    @Says("or n is not 1 .. 1000.")
    void tooSmallOrTooLarge() {
        TicketRealm x = Scene.enrolled(0);
        x.limit(1, 1000);
        x.limit(2, 33);
        for (int n : NO_STEPS) {
            is("limit " + n, false, x.limit(2, n));
            is("the limit is as before", 33, Scene.endOfIssue(x, 2, 1, 5000));
        }
        is("the least", true, x.limit(2, 1));
        is("the greatest", true, x.limit(2, 1000));
    }
}
