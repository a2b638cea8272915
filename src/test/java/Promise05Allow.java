@Section("Promise 5: allow")
final class Promise05Allow extends Sentences {
    @Says("The rights of p to a file, in the book, become so: true;")
    void becomeSo() {
        for (int rights = 0; rights <= 3; rights++) {
            TicketRealm x = Scene.enrolled(0);
            x.allow(2, 1, 3 - rights);
            is("allow " + rights, true, x.allow(2, 1, rights));
            is("READ with " + rights, rights == 1 || rights == 3 ? 0 : DENIED, Scene.firstOrder(x, 2, READ, 1, 0));
            is("WRITE with " + rights, rights == 2 || rights == 3 ? 0 : DENIED, Scene.firstOrder(x, 2, WRITE, 1, 0));
            is("ADD with " + rights, rights == 3 ? 0 : DENIED, Scene.firstOrder(x, 2, ADD, 1, 0));
        }
    }

    @Says("The rights of p to a file, in the book, become so: true;")
    void forOneFileAndOnePrincipal() {
        for (int allowed = 0; allowed < 3; allowed++) {
            TicketRealm x = Scene.enrolled(0);
            is("allow", true, x.allow(2, allowed, 3));
            for (int file = 0; file < 3; file++) {
                is("2 adds to file " + file, file == allowed ? 0 : DENIED, Scene.firstOrder(x, 2, ADD, file, 1));
                is("3 adds to file " + file, DENIED, Scene.firstOrder(x, 3, ADD, file, 1));
            }
        }
    }

    @Says("The rights of p to a file, in the book, become so: true;")
    void forEveryPrincipal() {
        TicketRealm x = new TicketRealm(0);
        for (int p = 0; p < 6; p++) {
            x.enrol(p);
        }
        for (int p = 0; p < 6; p++) {
            is("allow " + p, true, x.allow(p, 2, 2));
        }
    }

    @Says("refused with false if p is not in it,")
    void whoIsNotInTheBook() {
        TicketRealm x = Scene.enrolled(0);
        for (int p : NO_PRINCIPALS) {
            is("allow " + p, false, x.allow(p, 0, 3));
        }
        is("never enrolled", false, x.allow(4, 0, 3));
        x.enrol(4);
        is("enrolled after that, it has no rights", DENIED, Scene.firstOrder(x, 4, READ, 0, 0));
        x.remove(3);
        is("removed", false, x.allow(3, 0, 3));
        x.enrol(3);
        is("enrolled again, it has no rights", DENIED, Scene.firstOrder(x, 3, READ, 0, 0));
    }

    @Says("there is no such file,")
    void noSuchFile() {
        TicketRealm x = Scene.enrolled(0);
        for (int file : NO_FILES) {
            is("file " + file, false, x.allow(2, file, 3));
        }
        for (int file = 0; file < 3; file++) {
            is("no right to file " + file, DENIED, Scene.firstOrder(x, 2, READ, file, 0));
            is("file " + file, true, x.allow(2, file, 3));
        }
    }

    @Says("or rights is not 0 .. 3.")
    void noSuchRights() {
        TicketRealm x = Scene.enrolled(0);
        x.allow(2, 0, 1);
        for (int rights : new int[] {MIN, -1, 4, 7, MAX}) {
            is("rights " + rights, false, x.allow(2, 0, rights));
            is("reading as before", 0, Scene.firstOrder(x, 2, READ, 0, 0));
            is("no writing as before", DENIED, Scene.firstOrder(x, 2, WRITE, 0, 0));
        }
        is("the least", true, x.allow(2, 0, 0));
        is("the greatest", true, x.allow(2, 0, 3));
    }
}
