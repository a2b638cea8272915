@Section("Promise 6: save")
final class Promise06Save extends Sentences {
    @Says("The book as it is now is the saved one: how many principals are in it.")
    void answersHowMany() {
        TicketRealm x = new TicketRealm(0);
        is("none", 0, x.save());
        for (int p = 0; p < 6; p++) {
            x.enrol(p);
            is("with " + p, p + 1, x.save());
        }
        x.enrol(3);
        is("a second key is not a second principal", 6, x.save());
        for (int p = 0; p < 6; p++) {
            x.remove(p);
            is("without " + p, 5 - p, x.save());
        }
    }

    @Says("The book as it is now is the saved one")
    void theLatestSaveHolds() {
        TicketRealm x = Scene.enrolled(0);
        x.limit(2, 7);
        x.save();
        x.limit(2, 9);
        x.allow(2, 0, 1);
        x.remove(3);
        x.save();
        x.limit(2, 11);
        is("crash", 3, x.crash());
        is("the limit of the latest save", 9, Scene.endOfIssue(x, 2, 1, 500));
        is("its rights", 0, Scene.firstOrder(x, 2, READ, 0, 0));
        is("user 3 is not in it", false, x.remove(3));
    }

    @Says("The book as it is now is the saved one")
    void anEmptyBookIsSavedToo() {
        TicketRealm x = Scene.enrolled(0);
        x.save();
        for (int p = 0; p < 4; p++) {
            x.remove(p);
        }
        is("save", 0, x.save());
        x.enrol(2);
        is("crash", 0, x.crash());
    }

    @Says("The book as it is now is the saved one")
    void theBookItselfIsAsBefore() {
        TicketRealm x = Scene.enrolled(0);
        x.limit(2, 7);
        x.allow(2, 0, 1);
        x.save();
        is("limit", 7, Scene.endOfIssue(x, 2, 1, 500));
        is("rights", 0, Scene.firstOrder(x, 2, READ, 0, 0));
        is("keys", 6, x.look(7, 0));
    }

    @Says("The book as it is now is the saved one")
    void laterChangesAreNotInTheSavedOne() {
        TicketRealm x = Scene.enrolled(0);
        x.save();
        x.limit(2, 7);
        x.allow(2, 0, 3);
        x.remove(3);
        x.enrol(4);
        is("crash", 4, x.crash());
        is("limit", 20, Scene.endOfIssue(x, 2, 1, 500));
        is("rights", DENIED, Scene.firstOrder(x, 2, READ, 0, 0));
        is("3 is in it", true, x.remove(3));
        is("4 is not", false, x.remove(4));
    }
}
