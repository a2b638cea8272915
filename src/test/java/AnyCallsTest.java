import java.util.Arrays;
import java.util.Random;

/**
 * Calls of every kind with any arguments, which never throw: ../shared/LANGUAGE.md, rules 6 and 7.
 * These runs go on far beyond the 512th call, from where on the answers are free but the rules still
 * bind; what is answered there is not looked at.
 */
public final class AnyCallsTest {
    private static final int RUNS = 60, CALLS = 20000, KINDS = 20, SERVE = 13, MOST_ARGUMENTS = 5;
    /** Enough ticks of 1000 to take a clock past the largest int. */
    private static final int TICKS_TO_WRAP = 2200000;
    private static final int[] ODD = {Integer.MIN_VALUE, Integer.MIN_VALUE + 1, -1000, -2, -1, 6, 7, 12, 13, 100, 101,
        149, 150, 151, 199, 200, 201, 1000, 1001, Integer.MAX_VALUE - 1, Integer.MAX_VALUE};
    private static final Due due = new Due();

    private final Random random;
    private final TicketRealm realm;

    private AnyCallsTest(int seed) {
        random = new Random(seed);
        realm = seed % 3 == 0 ? new TicketRealm(any()) : busy(seed / 3);
    }

    /** In a realm where much has happened already, calls get further than in a new one. */
    private static TicketRealm busy(int i) {
        Busy.Lack[] lacks = Busy.Lack.values();
        return Busy.lacking(lacks[i % lacks.length]);
    }

    public static void main(String[] args) {
        for (int seed = 0; seed < RUNS; seed++) {
            new AnyCallsTest(seed).run(seed);
        }
        due.end();
    }

    private void run(int seed) {
        if (seed % 10 == 0) {
            wrapClocks();
        }
        for (int call = 1; call <= CALLS; call++) {
            int kind = anyKind();
            int[] arguments = new int[MOST_ARGUMENTS];
            for (int i = 0; i < MOST_ARGUMENTS; i++) {
                arguments[i] = any();
            }
            if (!ends(kind, arguments)) {
                due.fault("seed " + seed + ", call " + call);
                return;
            }
        }
    }

    private void wrapClocks() {
        for (int p = 0; p < 3; p++) {
            for (int i = 0; i < TICKS_TO_WRAP; i++) {
                realm.tick(p, 1000);
            }
        }
    }

    /** What undoes the work of others (enrol, remove, crash, tick) is rare, so that the calls get far. */
    private int anyKind() {
        int kind = random.nextInt(KINDS);
        boolean undoes = kind == 0 || kind == 1 || kind == 5 || kind == 6;
        return undoes && random.nextInt(100) != 0 ? random.nextInt(KINDS - SERVE) + SERVE : kind;
    }

    /** Mostly what there is, so that the calls get far. */
    private int any() {
        switch (random.nextInt(12)) {
            case 0:
                return ODD[random.nextInt(ODD.length)];
            case 1:
                return random.nextInt();
            case 2:
            case 3:
                return random.nextInt(200);
            default:
                return random.nextInt(6);
        }
    }

    private boolean ends(int kind, int[] a) {
        try {
            call(kind, a);
            return true;
        } catch (RuntimeException e) {
            due.fault("call of kind " + kind + Arrays.toString(a) + " threw " + e);
            return false;
        }
    }

    private void call(int kind, int[] a) {
        switch (kind) {
            case 0 -> realm.enrol(a[0]);
            case 1 -> realm.remove(a[0]);
            case 2 -> realm.limit(a[0], a[1]);
            case 3 -> realm.allow(a[0], a[1], a[2]);
            case 4 -> realm.save();
            case 5 -> realm.crash();
            case 6 -> realm.tick(a[0], a[1]);
            case 7 -> realm.login(a[0], a[1]);
            case 8 -> realm.ask(a[0], a[1]);
            case 9 -> realm.receive(a[0], a[1], a[2]);
            case 10 -> realm.order(a[0], a[1], a[2], a[3]);
            case 11 -> realm.issue(a[0], a[1], a[2], a[3], a[4]);
            case 12 -> realm.grant(a[0], a[1], a[2], a[3], a[4]);
            case SERVE -> realm.serve(a[0], a[1]);
            case 14 -> realm.answer();
            case 15 -> realm.steal(a[0]);
            case 16 -> realm.learn(a[0]);
            case 17 -> realm.forge(a[0], a[1], a[2], a[3], a[4]);
            case 18 -> realm.seal(a[0], a[1]);
            default -> realm.look(a[0], a[1]);
        }
    }
}
