import java.util.ArrayList;
import java.util.HashMap;
import java.util.HashSet;
import java.util.List;
import java.util.Map;
import java.util.Set;

/**
 * The document once more, word by word, with the Java library and without a thought for room or
 * speed. It shares no code with TicketRealm, so that a slip in one of the two shows as a difference.
 */
final class Model {
    record Entry(int key, int limit, List<Integer> rights) { }

    record Order(int operation, int file, int value) { }

    record Seal(int kind, int key, Integer client, Integer time, Integer session, Integer start, Integer end,
            Integer last, Integer nonce, Integer target, Integer serial, Order order) { }

    record Request(int nonce, int target, int key) { }

    record Credential(int ticket, int session, int end) { }

    record Served(int key, int client, int time, int serial, Order order) { }

    private static final int UNKNOWN = -1, BAD_SEAL = -2, MISMATCH = -3, LATE = -4, REPEATED = -5, DENIED = -6, FULL = -7;

    private final long skew;
    private final long[] clock = new long[6];
    private final Map<Integer, Integer> own = new HashMap<>();
    private Map<Integer, Entry> book = new HashMap<>();
    private Map<Integer, Entry> saved = new HashMap<>();
    private final List<Seal> seals = new ArrayList<>();
    private int keys = 0;
    private final Set<Integer> stolen = new HashSet<>();
    private final Map<Integer, Request> requests = new HashMap<>();
    private final Map<Integer, Credential> forCentre = new HashMap<>();
    private final Map<Integer, Credential> forService = new HashMap<>();
    private final Map<Integer, Integer> serials = new HashMap<>();
    private int nonces = 0;
    private final int[] files = new int[3];
    private final List<Served> cache = new ArrayList<>();
    private int answer = 0;

    Model(int skew) {
        this.skew = skew < 0 ? 0 : skew > 100 ? 100 : skew;
    }

    private static boolean principal(int p) {
        return 0 <= p && p <= 5;
    }

    private static boolean user(int u) {
        return 2 <= u && u <= 5;
    }

    private boolean near(long one, long other) {
        return one - other <= skew && other - one <= skew;
    }

    private Seal find(int number, int kind, Integer key) {
        if (number < 0 || number >= seals.size() || key == null) {
            return null;
        }
        Seal s = seals.get(number);
        return s.kind == kind && s.key == key ? s : null;
    }

    private int make(Seal s) {
        seals.add(s);
        return seals.size() - 1;
    }

    private int makeProof(int key, int client, int time) {
        return make(new Seal(1, key, client, time, null, null, null, null, null, null, null, null));
    }

    private int makeTicket(int key, int client, int session, int start, int end, int last) {
        return make(new Seal(2, key, client, null, session, start, end, last, null, null, null, null));
    }

    private int makePart(int key, int session, int nonce, int target, int end) {
        return make(new Seal(3, key, null, null, session, null, end, null, nonce, target, null, null));
    }

    private int makeClaim(int key, int client, int time, int serial, Order order) {
        return make(new Seal(4, key, client, time, null, null, null, null, null, null, serial, order));
    }

    int enrol(int p) {
        if (!principal(p)) return UNKNOWN;
        if (keys == 200) return FULL;
        Entry old = book.get(p);
        book.put(p, old == null ? new Entry(keys, 20, List.of(0, 0, 0)) : new Entry(keys, old.limit, old.rights));
        own.put(p, keys);
        return keys++;
    }

    boolean remove(int p) {
        return book.remove(p) != null;
    }

    boolean limit(int p, int n) {
        Entry old = book.get(p);
        if (old == null || n < 1 || n > 1000) return false;
        book.put(p, new Entry(old.key, n, old.rights));
        return true;
    }

    boolean allow(int p, int file, int rights) {
        Entry old = book.get(p);
        if (old == null || file < 0 || file > 2 || rights < 0 || rights > 3) return false;
        List<Integer> changed = new ArrayList<>(old.rights);
        changed.set(file, rights);
        book.put(p, new Entry(old.key, old.limit, changed));
        return true;
    }

    int save() {
        saved = new HashMap<>(book);
        return saved.size();
    }

    int crash() {
        book = new HashMap<>(saved);
        return book.size();
    }

    int tick(int p, int n) {
        if (!principal(p) || n < 1 || n > 1000) return UNKNOWN;
        clock[p] += n;
        return (int) clock[p];
    }

    int login(int u, int target) {
        if (!user(u) || !own.containsKey(u) || target != 0 && target != 1) return UNKNOWN;
        if (seals.size() + 1 > 150) return FULL;
        requests.put(u, new Request(++nonces, target, own.get(u)));
        return makeProof(own.get(u), u, (int) clock[u]);
    }

    int ask(int u, int target) {
        if (!user(u) || !forCentre.containsKey(u) || target != 0 && target != 1) return UNKNOWN;
        if (seals.size() + 1 > 150) return FULL;
        int key = forCentre.get(u).session;
        requests.put(u, new Request(++nonces, target, key));
        return makeClaim(key, u, (int) clock[u], serials.merge(u, 1, Integer::sum), new Order(0, 0, 0));
    }

    boolean receive(int u, int part, int ticket) {
        Request r = requests.get(u);
        if (r == null || ticket < 0 || ticket >= seals.size()) return false;
        Seal s = find(part, 3, r.key);
        if (s == null || s.nonce != r.nonce || s.target != r.target) return false;
        (r.target == 0 ? forCentre : forService).put(u, new Credential(ticket, s.session, s.end));
        requests.remove(u);
        return true;
    }

    int order(int u, int operation, int file, int value) {
        Credential c = forService.get(u);
        if (c == null || operation < 1 || operation > 3 || file < 0 || file > 2) return UNKNOWN;
        if (seals.size() + 1 > 150) return FULL;
        return makeClaim(c.session, u, (int) clock[u], serials.merge(u, 1, Integer::sum),
                new Order(operation, file, value));
    }

    int issue(int client, int target, int nonce, int proof, int life) {
        if (!user(client) || !book.containsKey(client)) return UNKNOWN;
        if (target != 0 && target != 1 || !book.containsKey(target) || life < 1) return UNKNOWN;
        Entry c = book.get(client);
        Entry t = book.get(target);
        Seal p = find(proof, 1, c.key);
        if (p == null) return BAD_SEAL;
        if (p.client != client) return MISMATCH;
        if (!near(p.time, clock[0])) return LATE;
        if (keys + 1 > 200 || seals.size() + 2 > 150) return FULL;
        int session = keys++;
        long start = clock[0];
        long end = start + Math.min(life, Math.min(c.limit, t.limit));
        long last = target == 0 ? start + 5L * c.limit : end;
        int number = makeTicket(t.key, client, session, (int) start, (int) end, (int) last);
        makePart(c.key, session, nonce, target, (int) end);
        return number;
    }

    int grant(int ticket, int claim, int target, int nonce, int life) {
        if (target != 0 && target != 1 || !book.containsKey(target)) return UNKNOWN;
        if (!book.containsKey(0) || life < 1) return UNKNOWN;
        Seal old = find(ticket, 2, book.get(0).key);
        if (old == null) return BAD_SEAL;
        Seal c = find(claim, 4, old.session);
        if (c == null) return BAD_SEAL;
        if (!old.client.equals(c.client) || c.order.operation != 0) return MISMATCH;
        if (!user(old.client) || !book.containsKey(old.client)) return MISMATCH;
        if (!near(c.time, clock[0]) || clock[0] > old.end) return LATE;
        if (keys + 1 > 200 || seals.size() + 2 > 150) return FULL;
        int session = keys++;
        long start = clock[0];
        long end = start + Math.min(life, Math.min(book.get(old.client).limit, book.get(target).limit));
        end = Math.min(end, target == 1 ? old.end : old.last);
        long last = target == 1 ? end : old.last;
        int number = makeTicket(book.get(target).key, old.client, session, (int) start, (int) end, (int) last);
        makePart(old.session, session, nonce, target, (int) end);
        return number;
    }

    int serve(int ticket, int claim) {
        cache.removeIf(s -> s.time < clock[1] - skew);
        Seal t = find(ticket, 2, own.get(1));
        if (t == null) return BAD_SEAL;
        Seal c = find(claim, 4, t.session);
        if (c == null) return BAD_SEAL;
        if (!t.client.equals(c.client) || c.order.operation == 0) return MISMATCH;
        if (!near(c.time, clock[1]) || clock[1] > t.end || t.start > clock[1] + skew) return LATE;
        Served s = new Served(c.key, c.client, c.time, c.serial, c.order);
        if (cache.contains(s)) return REPEATED;
        if (!book.containsKey(c.client)) return DENIED;
        int rights = book.get(c.client).rights.get(c.order.file);
        boolean reads = rights == 1 || rights == 3;
        boolean writes = rights == 2 || rights == 3;
        if (c.order.operation == 1 && !reads) return DENIED;
        if (c.order.operation == 2 && !writes) return DENIED;
        if (c.order.operation == 3 && !(reads && writes)) return DENIED;
        if (cache.size() == 12) return FULL;
        cache.add(s);
        if (c.order.operation == 2) files[c.order.file] = c.order.value;
        if (c.order.operation == 3) files[c.order.file] = files[c.order.file] + c.order.value;
        answer = files[c.order.file];
        return 0;
    }

    int answer() {
        return answer;
    }

    int steal(int p) {
        if (!own.containsKey(p)) return UNKNOWN;
        stolen.add(own.get(p));
        return own.get(p);
    }

    int learn(int seal) {
        if (seal < 0 || seal >= seals.size()) return UNKNOWN;
        Seal s = seals.get(seal);
        if (!stolen.contains(s.key)) return BAD_SEAL;
        if (s.session == null) return 0;
        stolen.add(s.session);
        return s.session;
    }

    int forge(int key, int kind, int client, int a, int b) {
        if (kind < 1 || kind > 4 || kind != 3 && !principal(client)) return UNKNOWN;
        if (!stolen.contains(key) || (kind == 2 || kind == 3) && !stolen.contains(a)) return BAD_SEAL;
        if (seals.size() + 1 > 150) return FULL;
        if (kind == 1) return makeProof(key, client, b);
        if (kind == 2) return makeTicket(key, client, a, 0, b, b);
        if (kind == 3) return makePart(key, a, b, 1, 1000000);
        return makeClaim(key, client, b, 0,
                new Order(Math.floorMod(a, 4), Math.floorMod(Math.floorDiv(a, 4), 4) % 3, Math.floorDiv(a, 16)));
    }

    int seal(int seal, int what) {
        if (seal < 0 || seal >= seals.size() || what < 0 || what > 2) return UNKNOWN;
        Seal s = seals.get(seal);
        Integer shown = what == 0 ? Integer.valueOf(s.kind) : what == 1 ? s.end : s.time;
        return shown == null ? 0 : shown;
    }

    int look(int what, int i) {
        if (what == 0) return 0 <= i && i <= 2 ? files[i] : UNKNOWN;
        if (what == 1) return principal(i) ? (int) clock[i] : UNKNOWN;
        if (what == 2) return cache.size();
        if (what == 3) return !user(i) ? UNKNOWN : requests.containsKey(i) ? requests.get(i).nonce : 0;
        if (what == 4) return forCentre.containsKey(i) ? forCentre.get(i).ticket : UNKNOWN;
        if (what == 5) return forService.containsKey(i) ? forService.get(i).ticket : UNKNOWN;
        if (what == 6) return seals.size();
        if (what == 7) return keys;
        return UNKNOWN;
    }
}
