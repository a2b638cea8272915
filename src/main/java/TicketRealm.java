/**
 * A realm in which users prove who they are to a file service by sealed tickets that a key centre
 * issues.
 */
public final class TicketRealm {
    public static final int UNKNOWN = -1, BAD_SEAL = -2, MISMATCH = -3, LATE = -4, REPEATED = -5, DENIED = -6, FULL = -7;

    private static final int KEY_CENTRE = 0, FILE_SERVICE = 1, FIRST_USER = 2, PRINCIPALS = 6;
    private static final int TARGETS = 2, FILES = 3;
    private static final int MOST_KEYS = 200, MOST_SEALS = 150, MOST_CACHED = 12;
    private static final int MOST_SKEW = 100, MOST_TICK = 1000;
    private static final int FIRST_LIMIT = 20, MOST_LIMIT = 1000, LAST_FACTOR = 5;
    private static final int BOTH_RIGHTS = 3;
    private static final int NO_OPERATION = 0, READ = 1, WRITE = 2, ADD = 3;
    private static final int PROOF = 1, TICKET = 2, PART = 3, CLAIM = 4;
    private static final int FORGED_SERIAL = 0, FORGED_START = 0, FORGED_PART_END = 1000000;

    /** Stands for a key or a ticket that is not there; no key and no seal has this number. */
    private static final int NONE = -1;

    private final int skew;
    private final int[] clocks = new int[PRINCIPALS];
    private final int[] ownKeys = new int[PRINCIPALS];
    private final Book book = new Book();
    private final Book savedBook = new Book();
    private final User[] users = new User[PRINCIPALS - FIRST_USER];
    private final FileService service = new FileService();
    private final Seal[] seals = new Seal[MOST_SEALS];
    private int sealCount = 0;
    private final boolean[] stolen = new boolean[MOST_KEYS];
    private int keyCount = 0;
    private int nonceCount = 0;

    public TicketRealm(int skew) {
        this.skew = Math.max(0, Math.min(MOST_SKEW, skew));
        for (int p = 0; p < PRINCIPALS; p++) {
            ownKeys[p] = NONE;
        }
        for (int i = 0; i < users.length; i++) {
            users[i] = new User();
        }
    }

    public int enrol(int p) {
        if (!isPrincipal(p)) {
            return UNKNOWN;
        }
        if (!hasRoom(1, 0)) {
            return FULL;
        }
        int key = makeKey();
        ownKeys[p] = key;
        book.enter(p, key);
        return key;
    }

    public boolean remove(int p) {
        if (!book.holds(p)) {
            return false;
        }
        book.strike(p);
        return true;
    }

    public boolean limit(int p, int n) {
        if (!book.holds(p) || n < 1 || n > MOST_LIMIT) {
            return false;
        }
        book.limits[p] = n;
        return true;
    }

    public boolean allow(int p, int file, int rights) {
        if (!book.holds(p) || !isFile(file) || rights < 0 || rights > BOTH_RIGHTS) {
            return false;
        }
        book.rights[p][file] = rights;
        return true;
    }

    public int save() {
        savedBook.copyFrom(book);
        return savedBook.size();
    }

    public int crash() {
        book.copyFrom(savedBook);
        return book.size();
    }

    public int tick(int p, int n) {
        if (!isPrincipal(p) || n < 1 || n > MOST_TICK) {
            return UNKNOWN;
        }
        clocks[p] += n;
        return clocks[p];
    }

    public int login(int u, int target) {
        User user = userAt(u);
        if (user == null || ownKeys[u] == NONE || !isTarget(target)) {
            return UNKNOWN;
        }
        if (!hasRoom(0, 1)) {
            return FULL;
        }
        user.openRequest(makeNonce(), target, ownKeys[u]);
        return keep(new Proof(ownKeys[u], u, clocks[u]));
    }

    public int ask(int u, int target) {
        User user = userAt(u);
        if (user == null || !user.hasCredential(KEY_CENTRE) || !isTarget(target)) {
            return UNKNOWN;
        }
        if (!hasRoom(0, 1)) {
            return FULL;
        }
        int key = user.sessionKeys[KEY_CENTRE];
        user.openRequest(makeNonce(), target, key);
        return keep(new Claim(key, u, clocks[u], user.makeSerial(), new Order(NO_OPERATION, 0, 0)));
    }

    public boolean receive(int u, int part, int ticket) {
        User user = userAt(u);
        if (user == null || !user.hasRequest() || sealAt(ticket) == null) {
            return false;
        }
        Part opened = openPart(part, user.requestKey);
        if (opened == null || opened.nonce != user.requestNonce || opened.target != user.requestTarget) {
            return false;
        }
        user.closeRequest(ticket, opened.sessionKey);
        return true;
    }

    public int order(int u, int operation, int file, int value) {
        User user = userAt(u);
        if (user == null || !user.hasCredential(FILE_SERVICE)) {
            return UNKNOWN;
        }
        if (operation < READ || operation > ADD || !isFile(file)) {
            return UNKNOWN;
        }
        if (!hasRoom(0, 1)) {
            return FULL;
        }
        int key = user.sessionKeys[FILE_SERVICE];
        return keep(new Claim(key, u, clocks[u], user.makeSerial(), new Order(operation, file, value)));
    }

    public int issue(int client, int target, int nonce, int proof, int life) {
        if (!isUserInBook(client) || !isTargetInBook(target) || life < 1) {
            return UNKNOWN;
        }
        Proof opened = openProof(proof, book.keys[client]);
        if (opened == null) {
            return BAD_SEAL;
        }
        if (opened.client != client) {
            return MISMATCH;
        }
        if (!near(opened.time, clocks[KEY_CENTRE])) {
            return LATE;
        }
        if (!hasRoom(1, 2)) {
            return FULL;
        }
        int end = firstEnd(client, target, life);
        int last = target == KEY_CENTRE ? clocks[KEY_CENTRE] + LAST_FACTOR * book.limits[client] : end;
        return makeTicketAndPart(client, target, nonce, book.keys[client], end, last);
    }

    public int grant(int ticket, int claim, int target, int nonce, int life) {
        if (!isTargetInBook(target) || !book.holds(KEY_CENTRE) || life < 1) {
            return UNKNOWN;
        }
        Ticket old = openTicket(ticket, book.keys[KEY_CENTRE]);
        Claim opened = old == null ? null : openClaim(claim, old.sessionKey);
        if (old == null || opened == null) {
            return BAD_SEAL;
        }
        int client = old.client;
        if (opened.client != client || opened.order.operation != NO_OPERATION || !isUserInBook(client)) {
            return MISMATCH;
        }
        if (!near(opened.time, clocks[KEY_CENTRE]) || clocks[KEY_CENTRE] > old.end) {
            return LATE;
        }
        if (!hasRoom(1, 2)) {
            return FULL;
        }
        int bound = target == KEY_CENTRE ? old.last : old.end;
        int end = Math.min(firstEnd(client, target, life), bound);
        int last = target == KEY_CENTRE ? old.last : end;
        return makeTicketAndPart(client, target, nonce, old.sessionKey, end, last);
    }

    public int serve(int ticket, int claim) {
        int clock = clocks[FILE_SERVICE];
        service.dropClaimsBefore(clock - skew);
        Ticket shown = openTicket(ticket, ownKeys[FILE_SERVICE]);
        Claim opened = shown == null ? null : openClaim(claim, shown.sessionKey);
        if (shown == null || opened == null) {
            return BAD_SEAL;
        }
        if (opened.client != shown.client || opened.order.operation == NO_OPERATION) {
            return MISMATCH;
        }
        if (!near(opened.time, clock) || clock > shown.end || shown.start > clock + skew) {
            return LATE;
        }
        if (service.hasServed(opened)) {
            return REPEATED;
        }
        if (!book.permits(opened.client, opened.order)) {
            return DENIED;
        }
        if (service.cacheIsFull()) {
            return FULL;
        }
        service.carryOut(opened);
        return 0;
    }

    public int answer() {
        return service.latestAnswer;
    }

    public int steal(int p) {
        if (!isPrincipal(p) || ownKeys[p] == NONE) {
            return UNKNOWN;
        }
        stolen[ownKeys[p]] = true;
        return ownKeys[p];
    }

    public int learn(int seal) {
        Seal found = sealAt(seal);
        if (found == null) {
            return UNKNOWN;
        }
        if (!isStolen(found.key)) {
            return BAD_SEAL;
        }
        int key = found.heldKey();
        if (key == NONE) {
            return 0;
        }
        stolen[key] = true;
        return key;
    }

    public int forge(int key, int kind, int client, int a, int b) {
        if (kind < PROOF || kind > CLAIM || (kind != PART && !isPrincipal(client))) {
            return UNKNOWN;
        }
        boolean holdsKey = kind == TICKET || kind == PART;
        if (!isStolen(key) || (holdsKey && !isStolen(a))) {
            return BAD_SEAL;
        }
        if (!hasRoom(0, 1)) {
            return FULL;
        }
        return keep(forgedSeal(key, kind, client, a, b));
    }

    public int seal(int seal, int what) {
        Seal found = sealAt(seal);
        if (found == null) {
            return UNKNOWN;
        }
        switch (what) {
            case 0:
                return found.kind();
            case 1:
                return found.shownEnd();
            case 2:
                return found.shownTime();
            default:
                return UNKNOWN;
        }
    }

    public int look(int what, int i) {
        switch (what) {
            case 0:
                return isFile(i) ? service.files[i] : UNKNOWN;
            case 1:
                return isPrincipal(i) ? clocks[i] : UNKNOWN;
            case 2:
                return service.cached;
            case 3:
                return openNonce(i);
            case 4:
                return heldTicket(i, KEY_CENTRE);
            case 5:
                return heldTicket(i, FILE_SERVICE);
            case 6:
                return sealCount;
            case 7:
                return keyCount;
            default:
                return UNKNOWN;
        }
    }

    private static boolean isPrincipal(int p) {
        return p >= 0 && p < PRINCIPALS;
    }

    private static boolean isUser(int p) {
        return p >= FIRST_USER && p < PRINCIPALS;
    }

    private static boolean isTarget(int target) {
        return target >= 0 && target < TARGETS;
    }

    private static boolean isFile(int file) {
        return file >= 0 && file < FILES;
    }

    private boolean isUserInBook(int p) {
        return isUser(p) && book.holds(p);
    }

    private boolean isTargetInBook(int target) {
        return isTarget(target) && book.holds(target);
    }

    private boolean isStolen(int key) {
        return key >= 0 && key < keyCount && stolen[key];
    }

    private User userAt(int u) {
        return isUser(u) ? users[u - FIRST_USER] : null;
    }

    /** In long, since a forged time may lie so far off that an int difference would wrap. */
    private boolean near(int time, int clock) {
        return Math.abs((long) time - clock) <= skew;
    }

    private boolean hasRoom(int moreKeys, int moreSeals) {
        return keyCount + moreKeys <= MOST_KEYS && sealCount + moreSeals <= MOST_SEALS;
    }

    private int makeKey() {
        int key = keyCount;
        keyCount++;
        return key;
    }

    private int makeNonce() {
        nonceCount++;
        return nonceCount;
    }

    private int keep(Seal made) {
        int number = sealCount;
        seals[number] = made;
        sealCount++;
        return number;
    }

    private Seal sealAt(int number) {
        return number >= 0 && number < sealCount ? seals[number] : null;
    }

    private Seal open(int number, int key) {
        Seal found = sealAt(number);
        return found != null && found.key == key ? found : null;
    }

    private Proof openProof(int number, int key) {
        if (open(number, key) instanceof Proof proof) {
            return proof;
        }
        return null;
    }

    private Ticket openTicket(int number, int key) {
        if (open(number, key) instanceof Ticket ticket) {
            return ticket;
        }
        return null;
    }

    private Part openPart(int number, int key) {
        if (open(number, key) instanceof Part part) {
            return part;
        }
        return null;
    }

    private Claim openClaim(int number, int key) {
        if (open(number, key) instanceof Claim claim) {
            return claim;
        }
        return null;
    }

    /** The least is taken before the clock is added, so that the largest life can't wrap. */
    private int firstEnd(int client, int target, int life) {
        int least = Math.min(life, Math.min(book.limits[client], book.limits[target]));
        return clocks[KEY_CENTRE] + least;
    }

    private int makeTicketAndPart(int client, int target, int nonce, int partKey, int end, int last) {
        int sessionKey = makeKey();
        int number = keep(new Ticket(book.keys[target], client, sessionKey, clocks[KEY_CENTRE], end, last));
        keep(new Part(partKey, sessionKey, nonce, target, end));
        return number;
    }

    private static Seal forgedSeal(int key, int kind, int client, int a, int b) {
        switch (kind) {
            case PROOF:
                return new Proof(key, client, b);
            case TICKET:
                return new Ticket(key, client, a, FORGED_START, b, b);
            case PART:
                return new Part(key, a, b, FILE_SERVICE, FORGED_PART_END);
            default:
                return new Claim(key, client, b, FORGED_SERIAL, new Order(a & 3, (a >> 2 & 3) % FILES, a >> 4));
        }
    }

    private int openNonce(int u) {
        User user = userAt(u);
        return user == null ? UNKNOWN : user.requestNonce;
    }

    private int heldTicket(int u, int target) {
        User user = userAt(u);
        return user == null || !user.hasCredential(target) ? UNKNOWN : user.tickets[target];
    }

    private abstract static class Seal {
        final int key;

        Seal(int key) {
            this.key = key;
        }

        abstract int kind();

        int heldKey() {
            return NONE;
        }

        int shownEnd() {
            return 0;
        }

        int shownTime() {
            return 0;
        }
    }

    private static final class Proof extends Seal {
        final int client;
        final int time;

        Proof(int key, int client, int time) {
            super(key);
            this.client = client;
            this.time = time;
        }

        @Override
        int kind() {
            return PROOF;
        }

        @Override
        int shownTime() {
            return time;
        }
    }

    private static final class Ticket extends Seal {
        final int client;
        final int sessionKey;
        final int start;
        final int end;
        final int last;

        Ticket(int key, int client, int sessionKey, int start, int end, int last) {
            super(key);
            this.client = client;
            this.sessionKey = sessionKey;
            this.start = start;
            this.end = end;
            this.last = last;
        }

        @Override
        int kind() {
            return TICKET;
        }

        @Override
        int heldKey() {
            return sessionKey;
        }

        @Override
        int shownEnd() {
            return end;
        }
    }

    private static final class Part extends Seal {
        final int sessionKey;
        final int nonce;
        final int target;
        final int end;

        Part(int key, int sessionKey, int nonce, int target, int end) {
            super(key);
            this.sessionKey = sessionKey;
            this.nonce = nonce;
            this.target = target;
            this.end = end;
        }

        @Override
        int kind() {
            return PART;
        }

        @Override
        int heldKey() {
            return sessionKey;
        }

        @Override
        int shownEnd() {
            return end;
        }
    }

    private static final class Claim extends Seal {
        final int client;
        final int time;
        final int serial;
        final Order order;

        Claim(int key, int client, int time, int serial, Order order) {
            super(key);
            this.client = client;
            this.time = time;
            this.serial = serial;
            this.order = order;
        }

        @Override
        int kind() {
            return CLAIM;
        }

        @Override
        int shownTime() {
            return time;
        }

        /** By contents, not by seal: a forger can make the same claim twice as two seals. */
        boolean sameAs(Claim other) {
            return key == other.key && client == other.client && time == other.time
                    && serial == other.serial && order.sameAs(other.order);
        }
    }

    private static final class Order {
        final int operation;
        final int file;
        final int value;

        Order(int operation, int file, int value) {
            this.operation = operation;
            this.file = file;
            this.value = value;
        }

        boolean sameAs(Order other) {
            return operation == other.operation && file == other.file && value == other.value;
        }
    }

    private static final class Book {
        /** NONE for a principal that is not in the book. */
        final int[] keys = new int[PRINCIPALS];
        final int[] limits = new int[PRINCIPALS];
        final int[][] rights = new int[PRINCIPALS][FILES];

        Book() {
            for (int p = 0; p < PRINCIPALS; p++) {
                keys[p] = NONE;
            }
        }

        boolean holds(int p) {
            return isPrincipal(p) && keys[p] != NONE;
        }

        int size() {
            int count = 0;
            for (int p = 0; p < PRINCIPALS; p++) {
                if (holds(p)) {
                    count++;
                }
            }
            return count;
        }

        void enter(int p, int key) {
            if (!holds(p)) {
                limits[p] = FIRST_LIMIT;
                for (int file = 0; file < FILES; file++) {
                    rights[p][file] = 0;
                }
            }
            keys[p] = key;
        }

        void strike(int p) {
            keys[p] = NONE;
        }

        /** An operation's number is, bit by bit, also the rights that it needs. */
        boolean permits(int client, Order order) {
            return holds(client) && (rights[client][order.file] & order.operation) == order.operation;
        }

        void copyFrom(Book other) {
            for (int p = 0; p < PRINCIPALS; p++) {
                keys[p] = other.keys[p];
                limits[p] = other.limits[p];
                for (int file = 0; file < FILES; file++) {
                    rights[p][file] = other.rights[p][file];
                }
            }
        }
    }

    /** A credential's END is not kept, since no call shows it or looks at it. */
    private static final class User {
        /** 0 while no request is open; nonces begin with 1. */
        int requestNonce = 0;
        int requestTarget = 0;
        int requestKey = NONE;
        int serialCount = 0;
        /** By target; NONE where there is no credential. */
        final int[] tickets = new int[TARGETS];
        final int[] sessionKeys = new int[TARGETS];

        User() {
            for (int target = 0; target < TARGETS; target++) {
                tickets[target] = NONE;
                sessionKeys[target] = NONE;
            }
        }

        boolean hasRequest() {
            return requestNonce != 0;
        }

        boolean hasCredential(int target) {
            return tickets[target] != NONE;
        }

        void openRequest(int nonce, int target, int key) {
            requestNonce = nonce;
            requestTarget = target;
            requestKey = key;
        }

        void closeRequest(int ticket, int sessionKey) {
            tickets[requestTarget] = ticket;
            sessionKeys[requestTarget] = sessionKey;
            requestNonce = 0;
        }

        int makeSerial() {
            serialCount++;
            return serialCount;
        }
    }

    private static final class FileService {
        final int[] files = new int[FILES];
        final Claim[] cache = new Claim[MOST_CACHED];
        int cached = 0;
        int latestAnswer = 0;

        void dropClaimsBefore(int time) {
            int kept = 0;
            for (int i = 0; i < cached; i++) {
                if (cache[i].time >= time) {
                    cache[kept] = cache[i];
                    kept++;
                }
            }
            cached = kept;
        }

        boolean hasServed(Claim claim) {
            for (int i = 0; i < cached; i++) {
                if (cache[i].sameAs(claim)) {
                    return true;
                }
            }
            return false;
        }

        boolean cacheIsFull() {
            return cached >= MOST_CACHED;
        }

        void carryOut(Claim claim) {
            cache[cached] = claim;
            cached++;
            Order order = claim.order;
            if (order.operation == WRITE) {
                files[order.file] = order.value;
            } else if (order.operation == ADD) {
                files[order.file] += order.value;
            }
            latestAnswer = files[order.file];
        }
    }
}
