import java.util.Arrays;
import java.util.Random;

/**
 * Many long runs of calls, made up from fixed seeds, each answer held against the Model's. A run is
 * a row of small scenes that mostly go through; odd arguments and odd steps between them bring up
 * the refusals.
 */
public final class ManyRunsTest {
    private static final int RUNS = 4000, CALLS = 512, LONGEST_SCENE = 40, MOST_SHOWN = 20;
    private static final int[] ODD = {Integer.MIN_VALUE, Integer.MIN_VALUE + 1, -1000, -2, -1, 0, 1, 2, 3, 4, 5, 6, 7,
        12, 100, 101, 149, 150, 199, 200, 1000, 1001, 1000000, Integer.MAX_VALUE - 1, Integer.MAX_VALUE};
    private static final Due due = new Due();

    private final int seed;
    private final Random random;
    private final TicketRealm realm;
    private final Model model;
    /** How rare odd arguments are: in some runs nearly none, so that these get far. */
    private final int rarity;
    private int calls = 0;
    private boolean right = true;

    private ManyRunsTest(int seed) {
        this.seed = seed;
        random = new Random(seed);
        rarity = 20 << seed % 4;
        int skew = random.nextInt(8) == 0 ? odd() : random.nextInt(12);
        realm = new TicketRealm(skew);
        model = new Model(skew);
    }

    public static void main(String[] args) {
        int wrong = 0;
        for (int seed = 0; seed < RUNS && wrong < MOST_SHOWN; seed++) {
            ManyRunsTest run = new ManyRunsTest(seed);
            run.begin();
            while (run.right && run.calls <= CALLS - LONGEST_SCENE) {
                run.scene();
            }
            wrong += run.right ? 0 : 1;
        }
        due.end();
    }

    private void begin() {
        for (int p = 0; p < 6; p++) {
            enrol(p);
        }
        for (int file = 0; file < 3; file++) {
            allow(2, file, 3);
        }
    }

    private void scene() {
        int u = pickUser();
        switch (random.nextInt(seed % 3 == 0 ? 12 : 9)) {
            case 0:
                loginScene(u, pick(0, 1));
                break;
            case 1:
                loginScene(u, 0);
                askScene(u, 0);
                askScene(u, 1);
                break;
            case 2:
                loginScene(u, 1);
                orderScene(u);
                break;
            case 3:
                orderScene(u);
                break;
            case 4:
                askScene(u, pick(0, 1));
                break;
            case 5:
                tickScene();
                break;
            case 6:
                bookScene();
                break;
            case 7:
                forgeScene();
                break;
            case 8:
                strayScene();
                break;
            default:
                showScene();
        }
    }

    private void loginScene(int u, int target) {
        int proof = login(u, target);
        int ticket = issue(u, target, pickNonce(u), pickSeal(proof), pickLife());
        receive(u, pickSeal(ticket + 1), pickSeal(ticket));
    }

    private void askScene(int u, int target) {
        int claim = ask(u, target);
        int ticket = grant(pickSeal(model.look(4, u)), pickSeal(claim), target, pickNonce(u), pickLife());
        receive(u, pickSeal(ticket + 1), pickSeal(ticket));
    }

    private void orderScene(int u) {
        int count = 1 + random.nextInt(random.nextInt(4) == 0 ? 9 : 3);
        for (int i = 0; i < count; i++) {
            int value = random.nextInt(4) == 0 ? odd() : random.nextInt();
            int claim = order(u, pick(1, 3), pick(0, 2), value);
            int ticket = pickSeal(model.look(5, u));
            serve(ticket, pickSeal(claim));
            if (random.nextInt(6) == 0) {
                serve(ticket, claim);
            }
        }
        answer();
    }

    private void tickScene() {
        if (random.nextInt(3) == 0) {
            tick(pick(0, 5), random.nextInt(10) == 0 ? pick(1, 1000) : pick(1, 4));
            return;
        }
        int n = random.nextInt(30) == 0 ? pick(1, 100) : pick(1, 6);
        for (int p = 0; p < 6; p++) {
            tick(p, n);
        }
    }

    private void bookScene() {
        int p = pick(0, 5);
        switch (random.nextInt(14)) {
            case 0:
                enrol(p);
                break;
            case 1:
                remove(p);
                break;
            case 2:
                save();
                break;
            case 3:
                crash();
                break;
            case 4:
                for (int i = 0; i < 20 && seed % 7 == 0; i++) {
                    enrol(p);
                }
                break;
            case 5:
            case 6:
            case 7:
                limit(p, random.nextInt(4) == 0 ? pick(1, 1000) : pick(1, 30));
                break;
            case 8:
                remove(p);
                enrol(p);
                break;
            default:
                allow(pick(2, 3), pick(0, 2), pick(random.nextInt(4), 3));
        }
    }

    private void forgeScene() {
        int key = steal(random.nextInt(3) == 0 ? pick(0, 5) : pick(0, 1));
        int session = random.nextInt(4) == 0 ? learn(pickSeal(model.look(6, 0) - 1)) : key;
        int client = random.nextInt(3) == 0 ? pick(0, 5) : 2;
        int ticket = forge(key, 2, client, session, pickTime() + 8);
        int count = 1 + random.nextInt(random.nextInt(4) == 0 ? 8 : 3);
        for (int i = 0; i < count; i++) {
            int a = random.nextInt(6) == 0 ? random.nextInt() : pick(0, 63);
            int claim = forge(session, 4, client, a, pickTime());
            serve(pickSeal(ticket), pickSeal(claim));
            if (random.nextInt(3) == 0) {
                grant(pickSeal(ticket), pickSeal(claim), pick(0, 1), pickNonce(pickUser()), pickLife());
            }
        }
    }

    private void strayScene() {
        int u = pickUser();
        switch (random.nextInt(6)) {
            case 0:
                forge(pickKey(), pick(1, 4), pick(0, 5), pickKey(), random.nextBoolean() ? pickTime() : pickNonce(u));
                break;
            case 1:
                int key = steal(u);
                login(u, pick(0, 1));
                int part = forge(key, 3, pick(0, 5), key, pickNonce(u));
                receive(u, pickSeal(part), pickSeal(part));
                break;
            case 2:
                int own = steal(u);
                int proof = forge(own, 1, random.nextInt(3) == 0 ? pick(0, 5) : u, pickKey(), pickTime());
                issue(u, pick(0, 1), pickNonce(u), pickSeal(proof), pickLife());
                break;
            case 3:
                learn(anySeal());
                break;
            case 4:
                receive(u, anySeal(), anySeal());
                break;
            default:
                serve(anySeal(), anySeal());
        }
    }

    private void showScene() {
        for (int i = 0; i < 4; i++) {
            shown("seal", anySeal(), pick(0, 2));
            shown("look", pick(0, 7), pick(0, 5));
        }
    }

    private int odd() {
        return ODD[random.nextInt(ODD.length)];
    }

    private int pick(int from, int to) {
        return random.nextInt(rarity) == 0 ? odd() : from + random.nextInt(Math.max(1, to - from + 1));
    }

    private int pickUser() {
        return pick(2, random.nextInt(3) == 0 ? 5 : 3);
    }

    private int anySeal() {
        return pick(0, model.look(6, 0));
    }

    private int pickSeal(int likely) {
        return random.nextInt(rarity) == 0 ? anySeal() : likely;
    }

    private int pickKey() {
        return pick(0, Math.min(8, model.look(7, 0)));
    }

    private int pickTime() {
        return random.nextInt(rarity) == 0 ? odd() : model.look(1, random.nextInt(3)) + random.nextInt(9) - 4;
    }

    private int pickNonce(int u) {
        return random.nextInt(rarity) == 0 ? odd() : model.look(3, u);
    }

    private int pickLife() {
        return random.nextInt(3) == 0 ? pick(1, 1500) : pick(1, 40);
    }

    /** What the model says goes on in the run, so that a slip of the realm shows where it happens. */
    private int held(String name, int got, int want, int... arguments) {
        calls++;
        if (right) {
            due.is("seed " + seed + ", call " + calls + ": " + name + Arrays.toString(arguments), want, got);
            right = got == want;
        }
        return want;
    }

    private void held(String name, boolean got, boolean want, int... arguments) {
        held(name, got ? 1 : 0, want ? 1 : 0, arguments);
    }

    private void enrol(int p) {
        held("enrol", realm.enrol(p), model.enrol(p), p);
    }

    private void remove(int p) {
        held("remove", realm.remove(p), model.remove(p), p);
    }

    private void limit(int p, int n) {
        held("limit", realm.limit(p, n), model.limit(p, n), p, n);
    }

    private void allow(int p, int file, int rights) {
        held("allow", realm.allow(p, file, rights), model.allow(p, file, rights), p, file, rights);
    }

    private void save() {
        held("save", realm.save(), model.save());
    }

    private void crash() {
        held("crash", realm.crash(), model.crash());
    }

    private void tick(int p, int n) {
        held("tick", realm.tick(p, n), model.tick(p, n), p, n);
    }

    private int login(int u, int target) {
        return held("login", realm.login(u, target), model.login(u, target), u, target);
    }

    private int ask(int u, int target) {
        return held("ask", realm.ask(u, target), model.ask(u, target), u, target);
    }

    private void receive(int u, int part, int ticket) {
        held("receive", realm.receive(u, part, ticket), model.receive(u, part, ticket), u, part, ticket);
    }

    private int order(int u, int operation, int file, int value) {
        return held("order", realm.order(u, operation, file, value), model.order(u, operation, file, value),
                u, operation, file, value);
    }

    private int issue(int client, int target, int nonce, int proof, int life) {
        return held("issue", realm.issue(client, target, nonce, proof, life),
                model.issue(client, target, nonce, proof, life), client, target, nonce, proof, life);
    }

    private int grant(int ticket, int claim, int target, int nonce, int life) {
        return held("grant", realm.grant(ticket, claim, target, nonce, life),
                model.grant(ticket, claim, target, nonce, life), ticket, claim, target, nonce, life);
    }

    private void serve(int ticket, int claim) {
        held("serve", realm.serve(ticket, claim), model.serve(ticket, claim), ticket, claim);
    }

    private void answer() {
        held("answer", realm.answer(), model.answer());
    }

    private int steal(int p) {
        return held("steal", realm.steal(p), model.steal(p), p);
    }

    private int learn(int seal) {
        return held("learn", realm.learn(seal), model.learn(seal), seal);
    }

    private int forge(int key, int kind, int client, int a, int b) {
        return held("forge", realm.forge(key, kind, client, a, b), model.forge(key, kind, client, a, b),
                key, kind, client, a, b);
    }

    private void shown(String name, int a, int b) {
        if (name.equals("seal")) {
            held(name, realm.seal(a, b), model.seal(a, b), a, b);
        } else {
            held(name, realm.look(a, b), model.look(a, b), a, b);
        }
    }
}
