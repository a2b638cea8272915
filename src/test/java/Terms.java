@Section("Terms")
final class Terms extends Sentences {
    private static TicketRealm allEnrolled(int skew) {
        TicketRealm x = new TicketRealm(skew);
        for (int p = 0; p < 6; p++) {
            x.enrol(p);
        }
        return x;
    }

    @Says("Whatever passes between them is in the hands of the caller, who may hand on any seal to anybody, as often "
            + "as wanted, steal keys, and make seals with stolen ones.")
    void sealsAreHandedOnAsOftenAsWanted() {
        TicketRealm x = Scene.enrolled(0);
        int proof = x.login(2, 0);
        int first = x.issue(2, 0, 1, proof, 5);
        is("a proof once more", first + 2, x.issue(2, 0, 1, proof, 5));
        x.login(3, 1);
        int partOf3 = x.issue(3, 1, 2, first + 4, 5) + 1;
        is("the ticket of 2 to user 3", true, x.receive(3, partOf3, first));
        is("user 3 has it", first, x.look(5, 3));
        is("the same ticket to user 2", true, x.receive(2, first + 1, first));
        int claim = x.ask(2, 1);
        int granted = x.grant(first, claim, 1, 3, 5);
        is("a claim once more", granted + 2, x.grant(first, claim, 1, 3, 5));
    }

    @Says("PRINCIPALS are 0, the key centre itself; 1, the file service; and the users 2 .. 5.")
    void principals() {
        TicketRealm x = new TicketRealm(0);
        for (int p = -2; p < 8; p++) {
            is("principal " + p, p >= 0 && p <= 5, x.enrol(p) != UNKNOWN);
        }
        for (int p = -2; p < 8; p++) {
            is("user " + p, p >= 2 && p <= 5, x.login(p, 0) != UNKNOWN);
        }
    }

    @Says("Each has a CLOCK, 0 at first.")
    void clocks() {
        TicketRealm x = new TicketRealm(0);
        for (int p = 0; p < 6; p++) {
            is("clock " + p + " at first", 0, x.look(1, p));
            x.tick(p, 100 + p);
        }
        for (int p = 0; p < 6; p++) {
            is("clock " + p, 100 + p, x.look(1, p));
        }
    }

    @Says("KEYS have numbers 0, 1, .. in the order in which they come up, at most 200.")
    void keysAreNumberedInOneRow() {
        TicketRealm x = Scene.enrolled(0);
        x.steal(0);
        x.steal(1);
        is("the first session key", 4, x.learn(Scene.credential(x, 2, 0, 9)));
        is("an own key", 5, x.enrol(4));
        is("a session key of a further ticket", 6, x.learn(Scene.further(x, 2, 1, 9)));
        is("an own key", 7, x.enrol(4));
        is("keys", 8, x.look(7, 0));
    }

    @Says("KEYS have numbers 0, 1, .. in the order in which they come up, at most 200.")
    void atMostTwoHundredKeys() {
        TicketRealm x = Scene.enrolled(0);
        Scene.makeKeys(x, MOST_KEYS - 2);
        x.steal(1);
        is("the last but one is a session key", MOST_KEYS - 2, x.learn(Scene.credential(x, 2, 1, 9)));
        is("the last is an own key", MOST_KEYS - 1, x.enrol(4));
        is("no own key more", FULL, x.enrol(4));
        is("no session key more", FULL, x.issue(2, 1, 2, x.login(2, 1), 9));
        is("keys", MOST_KEYS, x.look(7, 0));
    }

    @Says("Each principal has an OWN key, or none (none at first).")
    void ownKeys() {
        TicketRealm x = new TicketRealm(0);
        for (int p = 0; p < 6; p++) {
            is("none at first, " + p, UNKNOWN, x.steal(p));
        }
        for (int p = 0; p < 6; p++) {
            x.enrol(p);
            is("one then, " + p, p, x.steal(p));
        }
    }

    @Says("The key centre keeps a BOOK: which principals are in it (none at first),")
    void nobodyIsInTheBookAtFirst() {
        TicketRealm x = new TicketRealm(0);
        for (int p = 0; p < 6; p++) {
            is("limit of " + p, false, x.limit(p, 5));
            is("rights of " + p, false, x.allow(p, 0, 1));
            is("remove " + p, false, x.remove(p));
        }
        is("how many", 0, x.save());
    }

    @Says("and for each of these a key, a LIMIT 1 .. 1000,")
    void eachHasAKeyAndALimit() {
        TicketRealm x = allEnrolled(0);
        for (int p = 0; p < 6; p++) {
            is("least limit of " + p, true, x.limit(p, 1));
            is("greatest limit of " + p, true, x.limit(p, 1000));
            is("less than the least of " + p, false, x.limit(p, 0));
            is("more than the greatest of " + p, false, x.limit(p, 1001));
        }
        for (int u = 2; u < 6; u++) {
            is("END by the limits of " + u, 1000, Scene.endOfIssue(x, u, 1, 9999));
        }
        for (int u = 2; u < 6; u++) {
            x.limit(u, 10 * u);
            is("END by the limit of " + u + " alone", 10 * u, Scene.endOfIssue(x, u, 1, 9999));
        }
    }

    @Says("and for each of the files 0, 1, 2 its RIGHTS: 0 none, 1 reading, 2 writing, 3 both.")
    void eachHasRightsToEachFile() {
        TicketRealm x = allEnrolled(0);
        for (int p = 0; p < 6; p++) {
            for (int file = -1; file <= 3; file++) {
                for (int rights = -1; rights <= 4; rights++) {
                    boolean want = file >= 0 && file <= 2 && rights >= 0 && rights <= 3;
                    is("rights " + rights + " of " + p + " to " + file, want, x.allow(p, file, rights));
                }
            }
        }
    }

    @Says("The book as it was SAVED last (at first: empty) outlasts a crash of the key centre.")
    void theSavedBookIsEmptyAtFirst() {
        TicketRealm x = allEnrolled(0);
        is("crash", 0, x.crash());
        for (int p = 0; p < 6; p++) {
            is("not in the book " + p, false, x.remove(p));
        }
    }

    @Says("The book as it was SAVED last (at first: empty) outlasts a crash of the key centre.")
    void theSavedBookOutlastsACrash() {
        TicketRealm x = allEnrolled(0);
        is("save", 6, x.save());
        for (int times = 1; times <= 3; times++) {
            x.remove(times);
            is("crash " + times, 6, x.crash());
        }
    }

    @Says("SKEW is by how much two clocks may differ: two times are NEAR if they differ by at most SKEW.")
    void timesAreNear() {
        for (int skew : new int[] {0, 1, 7, 100}) {
            for (int ahead = 1; ahead <= 102; ahead++) {
                is("user ahead by " + ahead + ", skew " + skew, ahead <= skew, isNear(skew, 2, ahead));
                is("centre ahead by " + ahead + ", skew " + skew, ahead <= skew, isNear(skew, 0, ahead));
            }
        }
    }

    private static boolean isNear(int skew, int who, int ahead) {
        TicketRealm x = Scene.enrolled(skew);
        x.tick(who, ahead);
        return x.issue(2, 1, 1, x.login(2, 1), 5) != LATE;
    }

    @Says("two times are NEAR if they differ by at most SKEW.")
    void timesFarOffAreNotNear() {
        for (int clock : new int[] {1, 100, 1000}) {
            TicketRealm x = Scene.enrolled(100);
            x.steal(2);
            x.tick(0, clock);
            for (int time : new int[] {MIN, MIN + clock, MIN + clock + 1, MIN + clock + 100, MAX - clock, MAX}) {
                int proof = x.forge(2, PROOF, 2, 0, time);
                is("time " + time + " at " + clock, LATE, x.issue(2, 1, 1, proof, 5));
            }
        }
    }

    @Says("SEALS have numbers 0, 1, .. in the order of their making, at most 150;")
    void sealsAreNumberedInOneRow() {
        TicketRealm x = Scene.enrolled(0);
        x.steal(3);
        is("login", 0, x.login(2, 0));
        is("issue makes two", 1, x.issue(2, 0, 1, 0, 9));
        is("forge", 3, x.forge(3, PROOF, 3, 0, 0));
        x.receive(2, 2, 1);
        is("ask", 4, x.ask(2, 1));
        is("grant makes two", 5, x.grant(1, 4, 1, 2, 9));
        x.receive(2, 6, 5);
        is("order", 7, x.order(2, READ, 0, 0));
        is("seals", 8, x.look(6, 0));
    }

    @Says("SEALS have numbers 0, 1, .. in the order of their making, at most 150;")
    void atMostHundredAndFiftySeals() {
        TicketRealm x = Scene.enrolled(0);
        for (int seal = 0; seal < MOST_SEALS; seal++) {
            is("seal " + seal, seal, x.login(2, 0));
        }
        is("one more", FULL, x.login(2, 0));
        is("seals", MOST_SEALS, x.look(6, 0));
    }

    @Says("each is made UNDER a key, which never shows.")
    void theKeyNeverShows() {
        TicketRealm x = Scene.enrolled(0);
        x.steal(2);
        x.steal(3);
        for (int kind = PROOF; kind <= CLAIM; kind++) {
            int one = x.forge(2, kind, 2, 2, 5);
            int other = x.forge(3, kind, 2, 2, 5);
            for (int what = -5; what <= 10; what++) {
                is("kind " + kind + ", what " + what, x.seal(one, what), x.seal(other, what));
            }
        }
    }

    @Says("By their kinds they hold: 1 PROOF: a client (a principal) and a time. 2 TICKET: a client, a session key, a "
            + "START, an END and a LAST. 3 PART: a session key, a nonce, a target (0 or 1) and an END. 4 CLAIM: a "
            + "client, a time, a SERIAL, and an ORDER: an operation (0 none, 1 READ, 2 WRITE, 3 ADD), a file and a "
            + "value.")
    void kindsOfSeals() {
        TicketRealm x = Scene.enrolled(0);
        x.allow(2, 2, 3);
        int ticket = Scene.credential(x, 2, 1, 9);
        int write = x.order(2, 2, 2, 30);
        int add = x.order(2, 3, 2, 4);
        int read = x.order(2, 1, 2, 0);
        int[] kinds = {PROOF, TICKET, PART, CLAIM, CLAIM, CLAIM};
        for (int seal = 0; seal < kinds.length; seal++) {
            is("kind of seal " + seal, kinds[seal], x.seal(seal, 0));
        }
        x.serve(ticket, write);
        is("2 is WRITE", 30, x.look(0, 2));
        x.serve(ticket, add);
        is("3 is ADD", 34, x.look(0, 2));
        x.serve(ticket, read);
        is("1 is READ", 34, x.answer());
    }

    /** Seal 1 is under key 0, seal 3 under key 1, seal 0 under key 2, seal 5 under key 3. */
    @Says("A seal is OPENED with a key if it was made under that key, and not otherwise.")
    void onlyItsOwnKeyOpensASeal() {
        int[] sealUnder = {1, 3, 0, 5};
        for (int stolen = 0; stolen < 4; stolen++) {
            TicketRealm x = Scene.enrolled(0);
            int proof = x.login(2, 0);
            x.issue(2, 0, 1, proof, 9);
            x.issue(2, 1, 1, proof, 9);
            x.login(3, 0);
            x.steal(stolen);
            for (int key = 0; key < 4; key++) {
                is("seal under " + key + " with key " + stolen, key == stolen, x.learn(sealUnder[key]) != BAD_SEAL);
            }
        }
    }

    @Says("A seal is OPENED with a key if it was made under that key, and not otherwise.")
    void principalsOpenWithTheirKeysAlone() {
        for (int key = 0; key < 4; key++) {
            TicketRealm x = Scene.enrolled(0);
            x.steal(key);
            int proof = x.forge(key, PROOF, 2, 0, 0);
            int ticket = x.forge(key, TICKET, 2, key, 5);
            int claim = x.forge(key, CLAIM, 2, 0, 0);
            is("the centre opens a proof of 2 under " + key, key == 2, x.issue(2, 1, 1, proof, 5) != BAD_SEAL);
            is("the centre opens a ticket under " + key, key == 0, x.grant(ticket, claim, 1, 1, 5) != BAD_SEAL);
            is("the service opens a ticket under " + key, key == 1, x.serve(ticket, claim) != BAD_SEAL);
        }
    }

    @Says("A USER has at most one open REQUEST (a nonce, a target, and the key under which the answer must be made),")
    void atMostOneRequest() {
        TicketRealm x = Scene.enrolled(0);
        int proof = x.login(2, 0);
        int first = x.issue(2, 0, 1, proof, 9);
        int second = x.issue(2, 0, 2, x.login(2, 0), 9);
        is("the answer to the first", false, x.receive(2, first + 1, first));
        is("the answer to the second", true, x.receive(2, second + 1, second));
        is("no request is left", false, x.receive(2, first + 1, first));
    }

    @Says("and at most one CREDENTIAL for each target: a ticket (any seal's number), a session key and an END.")
    void atMostOneCredentialForEachTarget() {
        TicketRealm x = Scene.enrolled(0);
        x.allow(2, 0, 1);
        int first = Scene.credential(x, 2, 1, 9);
        int second = Scene.credential(x, 2, 1, 9);
        int third = Scene.credential(x, 2, 0, 9);
        is("the ticket for 1", second, x.look(5, 2));
        is("the ticket for 0", third, x.look(4, 2));
        int claim = x.order(2, READ, 0, 0);
        is("the old session key", BAD_SEAL, x.serve(first, claim));
        is("the new session key", 0, x.serve(second, claim));
    }

    /** The END of a credential stands in no promise's answer; it is the PART's, which shows. */
    @Says("a session key and an END.")
    void aCredentialIsUsedAfterItsEndToo() {
        TicketRealm x = Scene.enrolled(0);
        Scene.credential(x, 2, 0, 1);
        Scene.credential(x, 2, 1, 1);
        Scene.tickAll(x, 1000);
        is("ask", 6, x.ask(2, 1));
        is("order", 7, x.order(2, READ, 0, 0));
    }

    @Says("NONCES are 1, 2, .. in the order in which users make requests;")
    void noncesAreNumberedInOneRow() {
        TicketRealm x = Scene.enrolled(0);
        x.login(2, 0);
        is("login of 2", 1, x.look(3, 2));
        x.login(3, 0);
        is("login of 3", 2, x.look(3, 3));
        x.login(2, 0);
        is("login of 2 again", 3, x.look(3, 2));
        Scene.credential(x, 2, 0, 5);
        x.ask(2, 1);
        is("ask of 2", 5, x.look(3, 2));
        x.login(3, 1);
        is("login of 3 after it", 6, x.look(3, 3));
    }

    /** A forged claim has the serial 0; were a user's serials to begin there, or to stay, one would be REPEATED. */
    @Says("a user's serials are 1, 2, .. in the order in which it makes claims.")
    void serialsDiffer() {
        TicketRealm x = Scene.robbedService(0, 50);
        x.steal(2);
        x.login(2, 1);
        x.receive(2, x.forge(2, PART, 0, 1, 1), 0);
        is("a forged one, with serial 0", 0, Scene.served(x, ADD, 0, 1, 0));
        for (int serial = 1; serial < MOST_CACHED; serial++) {
            is("serial " + serial, 0, x.serve(0, x.order(2, ADD, 0, 1)));
        }
        is("all were carried out", MOST_CACHED, x.look(0, 0));
    }

    @Says("THE FILE SERVICE keeps three files, each an int, 0 at first;")
    void threeFiles() {
        TicketRealm x = Scene.enrolled(0);
        int ticket = Scene.credential(x, 2, 1, 9);
        for (int file = 0; file < 3; file++) {
            is("file " + file + " at first", 0, x.look(0, file));
            x.allow(2, file, 2);
            x.serve(ticket, x.order(2, WRITE, file, MIN));
            is("the least int in file " + file, MIN, x.look(0, file));
            x.serve(ticket, x.order(2, WRITE, file, MAX));
            is("the greatest int in file " + file, MAX, x.look(0, file));
        }
        is("no file 3", UNKNOWN, x.look(0, 3));
    }

    @Says("a CACHE of at most twelve claims that it has served (key, client, time, serial and order);")
    void theCacheHoldsTwelve() {
        TicketRealm x = Scene.robbedService(0, 50);
        is("none at first", 0, x.look(2, 0));
        for (int i = 1; i <= MOST_CACHED; i++) {
            Scene.served(x, ADD, 0, i, 0);
            is("claims", i, x.look(2, 0));
        }
        is("one more", FULL, Scene.served(x, ADD, 0, 13, 0));
        is("never more", MOST_CACHED, x.look(2, 0));
    }

    @Says("and the ANSWER of the latest one (0 at first).")
    void theAnswerIsZeroAtFirst() {
        TicketRealm x = Scene.robbedService(0, 50);
        is("at first", 0, x.answer());
        Scene.served(x, WRITE, 0, 5, 0);
        Scene.served(x, WRITE, 1, 6, 0);
        is("of the latest", 6, x.answer());
    }

    @Says("FULL holds when more seals or keys would be made than there can be.")
    void oneSealMustFit() {
        for (int call = 0; call < 4; call++) {
            for (int seals = MOST_SEALS - 1; seals <= MOST_SEALS; seals++) {
                TicketRealm x = Scene.enrolled(0);
                Scene.credential(x, 2, 0, 9);
                Scene.credential(x, 2, 1, 9);
                Scene.makeSeals(x, seals);
                is("call " + call + " with " + seals, seals < MOST_SEALS ? seals : FULL, makeOneSeal(x, call));
            }
        }
    }

    private static int makeOneSeal(TicketRealm x, int call) {
        switch (call) {
            case 0:
                return x.login(2, 0);
            case 1:
                return x.ask(2, 0);
            case 2:
                return x.order(2, READ, 0, 0);
            default:
                return x.forge(x.steal(2), PROOF, 2, 0, 0);
        }
    }

    @Says("FULL holds when more seals or keys would be made than there can be.")
    void twoSealsMustFit() {
        for (int seals = MOST_SEALS - 2; seals <= MOST_SEALS; seals++) {
            boolean fits = seals == MOST_SEALS - 2;
            TicketRealm x = Scene.enrolled(0);
            int proof = x.login(2, 0);
            Scene.makeSeals(x, seals);
            is("issue with " + seals, fits ? seals : FULL, x.issue(2, 0, 1, proof, 9));
            TicketRealm y = Scene.enrolled(0);
            int first = Scene.credential(y, 2, 0, 9);
            int claim = y.ask(2, 1);
            Scene.makeSeals(y, seals);
            is("grant with " + seals, fits ? seals : FULL, y.grant(first, claim, 1, 2, 9));
        }
    }

    @Says("FULL holds when more seals or keys would be made than there can be.")
    void oneKeyMustFit() {
        for (int keys = MOST_KEYS - 1; keys <= MOST_KEYS; keys++) {
            boolean fits = keys == MOST_KEYS - 1;
            TicketRealm x = Scene.enrolled(0);
            int proof = x.login(2, 0);
            Scene.makeKeys(x, keys);
            is("issue with " + keys, fits ? 1 : FULL, x.issue(2, 0, 1, proof, 9));
            TicketRealm y = Scene.enrolled(0);
            int first = Scene.credential(y, 2, 0, 9);
            int claim = y.ask(2, 1);
            Scene.makeKeys(y, keys);
            is("grant with " + keys, fits ? 4 : FULL, y.grant(first, claim, 1, 2, 9));
            TicketRealm z = Scene.enrolled(0);
            Scene.makeKeys(z, keys);
            is("enrol with " + keys, fits ? keys : FULL, z.enrol(2));
        }
    }
}
