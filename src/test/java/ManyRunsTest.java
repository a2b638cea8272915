import java.util.Random;

/**
 * Many long runs of calls, made up from fixed seeds, each answer held against the Model's. Most
 * arguments are picked so that calls go through; some are odd, so that each refusal comes up too.
 */
public final class ManyRunsTest {
    private static final int RUNS = 4000, CALLS = 512, SHOWN = 20;
    private static final int[] ODD = {Integer.MIN_VALUE, Integer.MIN_VALUE + 1, -1000, -2, -1, 0, 1, 2, 3, 4, 5, 6, 7,
        12, 100, 101, 149, 150, 199, 200, 1000, 1001, 1000000, Integer.MAX_VALUE - 1, Integer.MAX_VALUE};

    private final Random random;
    private final TicketRealm realm;
    private final Model model;
    private final int flavour;
    private int lastTicket = 0;
    private int lastClaim = 0;
    private int lastProof = 0;
    private String call = "";
    private int got;
    private int want;

    private ManyRunsTest(int seed) {
        random = new Random(seed);
        flavour = seed % 4;
        int skew = random.nextInt(8) == 0 ? odd() : random.nextInt(12);
        realm = new TicketRealm(skew);
        model = new Model(skew);
    }

    public static void main(String[] args) {
        Due due = new Due();
        int wrong = 0;
        for (int seed = 0; seed < RUNS && wrong < SHOWN; seed++) {
            ManyRunsTest run = new ManyRunsTest(seed);
            for (int n = 0; n < CALLS; n++) {
                run.step(n);
                due.is("seed " + seed + ", call " + n + ": " + run.call, run.want, run.got);
                if (run.got != run.want) {
                    wrong++;
                    break;
                }
            }
        }
        due.end();
    }

    private int odd() {
        return ODD[random.nextInt(ODD.length)];
    }

    /** Mostly from .. to, now and then something odd. */
    private int pick(int from, int to) {
        return random.nextInt(40) == 0 ? odd() : from + random.nextInt(to - from + 1);
    }

    private int pickUser() {
        return pick(2, random.nextInt(3) == 0 ? 5 : 3);
    }

    private int pickSeal(int likely) {
        int seals = model.look(6, 0);
        switch (random.nextInt(8)) {
            case 0:
                return pick(0, seals);
            case 1:
                return seals - 1 - random.nextInt(6);
            default:
                return likely;
        }
    }

    private int pickKey() {
        int keys = model.look(7, 0);
        return random.nextInt(3) == 0 ? keys - 1 - random.nextInt(3) : pick(0, Math.min(8, keys));
    }

    private int pickTime() {
        return random.nextInt(20) == 0 ? odd() : model.look(1, random.nextInt(3)) + random.nextInt(9) - 4;
    }

    private int pickNonce(int u) {
        return random.nextInt(12) == 0 ? odd() : model.look(3, u);
    }

    private void note(String name, int answered, int due, int... arguments) {
        call = name + java.util.Arrays.toString(arguments);
        got = answered;
        want = due;
    }

    private void note(String name, boolean answered, boolean due, int... arguments) {
        note(name, answered ? 1 : 0, due ? 1 : 0, arguments);
    }

    private void step(int n) {
        if (n < 6) {
            note("enrol", realm.enrol(n), model.enrol(n), n);
        } else if (n < 12) {
            note("allow", realm.allow(2, n % 3, 3), model.allow(2, n % 3, 3), 2, n % 3, 3);
        } else {
            freeStep();
        }
    }

    private void freeStep() {
        int dice = random.nextInt(100);
        if (dice < 16) {
            bookStep();
        } else if (dice < 46) {
            userStep();
        } else if (dice < 66) {
            centreStep();
        } else if (dice < 80) {
            serviceStep();
        } else if (dice < 88) {
            thiefStep();
        } else {
            showStep();
        }
    }

    private void bookStep() {
        int p = pick(0, 5);
        int a = pick(0, 2);
        int b = pick(0, 3);
        int n = random.nextInt(3) == 0 ? pick(1, 1000) : pick(1, 30);
        switch (random.nextInt(flavour == 0 ? 12 : 40)) {
            case 0:
                note("enrol", realm.enrol(p), model.enrol(p), p);
                break;
            case 1:
                note("remove", realm.remove(p), model.remove(p), p);
                break;
            case 2:
            case 3:
                note("limit", realm.limit(p, n), model.limit(p, n), p, n);
                break;
            case 4:
                note("save", realm.save(), model.save());
                break;
            case 5:
                note("crash", realm.crash(), model.crash());
                break;
            case 6:
            case 7:
            case 8:
            case 9:
                note("allow", realm.allow(p, a, b), model.allow(p, a, b), p, a, b);
                break;
            default:
                int by = random.nextInt(20) == 0 ? n : pick(1, 3);
                note("tick", realm.tick(p, by), model.tick(p, by), p, by);
        }
    }

    private void userStep() {
        int u = pickUser();
        int target = pick(0, 1);
        switch (random.nextInt(flavour == 1 ? 6 : 9)) {
            case 0:
                note("login", realm.login(u, target), model.login(u, target), u, target);
                lastProof = got >= 0 ? got : lastProof;
                break;
            case 1:
                note("ask", realm.ask(u, target), model.ask(u, target), u, target);
                lastClaim = got >= 0 ? got : lastClaim;
                break;
            case 2:
            case 3:
                int operation = pick(1, 3);
                int file = pick(0, 2);
                int value = random.nextInt(4) == 0 ? odd() : random.nextInt();
                note("order", realm.order(u, operation, file, value), model.order(u, operation, file, value),
                        u, operation, file, value);
                lastClaim = got >= 0 ? got : lastClaim;
                break;
            default:
                int part = pickSeal(lastTicket + 1);
                int ticket = pickSeal(lastTicket);
                note("receive", realm.receive(u, part, ticket), model.receive(u, part, ticket), u, part, ticket);
        }
    }

    private void centreStep() {
        int u = pickUser();
        int target = pick(0, 1);
        int nonce = pickNonce(u);
        int life = random.nextInt(3) == 0 ? pick(1, 1500) : pick(1, 40);
        if (random.nextBoolean()) {
            int proof = pickSeal(lastProof);
            note("issue", realm.issue(u, target, nonce, proof, life), model.issue(u, target, nonce, proof, life),
                    u, target, nonce, proof, life);
        } else {
            int ticket = pickSeal(random.nextBoolean() ? lastTicket : model.look(4, u));
            int claim = pickSeal(lastClaim);
            note("grant", realm.grant(ticket, claim, target, nonce, life),
                    model.grant(ticket, claim, target, nonce, life), ticket, claim, target, nonce, life);
        }
        lastTicket = got >= 0 ? got : lastTicket;
    }

    private void serviceStep() {
        if (random.nextInt(6) == 0) {
            note("answer", realm.answer(), model.answer());
            return;
        }
        int ticket = pickSeal(random.nextBoolean() ? lastTicket : model.look(5, pickUser()));
        int claim = pickSeal(lastClaim);
        note("serve", realm.serve(ticket, claim), model.serve(ticket, claim), ticket, claim);
    }

    private void thiefStep() {
        int p = pick(0, 5);
        int seal = pickSeal(lastTicket);
        switch (random.nextInt(flavour == 2 ? 12 : 5)) {
            case 0:
                note("steal", realm.steal(p), model.steal(p), p);
                break;
            case 1:
                note("learn", realm.learn(seal), model.learn(seal), seal);
                break;
            default:
                forgeStep();
        }
    }

    private void forgeStep() {
        int key = pickKey();
        int kind = pick(1, 4);
        int client = random.nextInt(3) == 0 ? pick(0, 5) : 2;
        int a = kind == 2 || kind == 3 ? pickKey() : random.nextInt(4) == 0 ? random.nextInt() : pick(0, 15);
        int b = kind == 3 ? pickNonce(pickUser()) : pickTime() + (kind == 2 ? 5 : 0);
        note("forge", realm.forge(key, kind, client, a, b), model.forge(key, kind, client, a, b),
                key, kind, client, a, b);
        if (got >= 0 && kind == 1) {
            lastProof = got;
        } else if (got >= 0 && kind == 2) {
            lastTicket = got;
        } else if (got >= 0 && kind == 4) {
            lastClaim = got;
        }
    }

    private void showStep() {
        if (random.nextBoolean()) {
            int seal = pickSeal(lastTicket);
            int what = pick(0, 2);
            note("seal", realm.seal(seal, what), model.seal(seal, what), seal, what);
        } else {
            int what = pick(0, 7);
            int i = pick(0, 5);
            note("look", realm.look(what, i), model.look(what, i), what, i);
        }
    }
}
