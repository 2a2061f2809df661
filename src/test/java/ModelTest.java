import java.util.Random;

/** Runs of calls by a fixed seed, and each code 7 word, on the program and on the model. */
public final class ModelTest {
    private static final Checks CHECKS = new Checks();
    private static final int RUNS = 4000;
    private static final int CALLS = 512;
    private static final int[] DEVICE_WORDS = {
        06001, 06002, 06030, 06031, 06032, 06034, 06036, 06041, 06042, 06044, 06046, 06000, 06040,
    };

    private final Random random;
    private final TapeMachine machine = new TapeMachine();
    private final Model model = new Model();
    private final String run;

    private ModelTest(int seed) {
        random = new Random(seed);
        run = "run " + seed + ": ";
    }

    public static void main(String[] args) {
        for (int seed = 0; seed < RUNS; seed++) {
            new ModelTest(seed).calls();
            // One run that went apart tells enough: the rest would bury it.
            CHECKS.end();
        }
        for (int word = 07000; word <= 07777; word++) {
            everyAccumulator(word);
        }
        CHECKS.end();
    }

    private void calls() {
        int loaded = random.nextInt(150);
        // Most runs stay in a small part of the core, where the program meets its own words.
        int from = random.nextBoolean() ? 0 : random.nextInt(4096);
        for (int i = 0; i < loaded; i++) {
            poke((from + i) & 07777, word());
        }
        set(2, from);
        for (int i = loaded + 1; i < CALLS; i++) {
            call();
        }
    }

    private void call() {
        switch (random.nextInt(16)) {
            case 0: case 1:
                feed();
                break;
            case 2:
                CHECKS.due(run + "waiting", machine.waiting(), model.waiting());
                break;
            case 3:
                poke(anyNumber(4096), random.nextBoolean() ? word() : random.nextInt());
                break;
            case 4: case 5:
                peek(random.nextBoolean() ? anyNumber(4096) : random.nextInt(32));
                break;
            case 6:
                set(anyNumber(5), random.nextInt());
                break;
            case 7: case 8: case 9:
                register(anyNumber(11));
                break;
            case 10:
                CHECKS.due(run + "go", machine.go(), model.go());
                break;
            case 11:
                runSteps(random.nextInt(8) == 0 ? anyNumber(2001) : random.nextInt(6));
                break;
            case 12:
                printed(anyNumber(64));
                break;
            case 13:
                trace(anyNumber(64));
                break;
            case 14:
                CHECKS.due(run + "interrupts", machine.interrupts(), model.interrupts());
                break;
            default:
                CHECKS.due(run + "skips", machine.skips(), model.skips());
                break;
        }
    }

    private void feed() {
        int b = anyNumber(256);
        CHECKS.due(run + "feed " + b, machine.feed(b), model.feed(b));
    }

    private void poke(int a, int w) {
        CHECKS.due(run + "poke " + a, machine.poke(a, w), model.poke(a, w));
    }

    private void peek(int a) {
        CHECKS.due(run + "peek " + a, machine.peek(a), model.peek(a));
    }

    private void set(int k, int v) {
        CHECKS.due(run + "set " + k, machine.set(k, v), model.set(k, v));
    }

    private void register(int k) {
        CHECKS.due(run + "register " + k, machine.register(k), model.register(k));
    }

    private void runSteps(int n) {
        CHECKS.due(run + "run " + n, machine.run(n), model.run(n));
    }

    private void printed(int k) {
        CHECKS.due(run + "printed " + k, machine.printed(k), model.printed(k));
    }

    private void trace(int k) {
        CHECKS.due(run + "trace " + k, machine.trace(k), model.trace(k));
    }

    /** A number below the limit, or, now and then, one at its edges or far outside. */
    private int anyNumber(int limit) {
        int[] edges = {-1, -2, 0, limit - 1, limit, limit + 1, Integer.MIN_VALUE, Integer.MAX_VALUE};
        return random.nextInt(12) == 0 ? edges[random.nextInt(edges.length)] : random.nextInt(limit);
    }

    private int word() {
        int kind = random.nextInt(10);
        if (kind < 3) {
            return DEVICE_WORDS[random.nextInt(DEVICE_WORDS.length)];
        }
        if (kind < 5) {
            // Halts are kept rare: they would end most runs at once.
            return random.nextInt(10) == 0 ? 07402 : (07000 + random.nextInt(01000)) & ~02;
        }
        if (kind < 7) {
            return (random.nextInt(6) << 9) + 0400 + random.nextInt(040);
        }
        return random.nextInt(010000);
    }

    private static void everyAccumulator(int word) {
        int[] acs = {0, 1, 2, 3, 03777, 04000, 04001, 05252, 06000, 07776, 07777};
        for (int ac : acs) {
            for (int l = 0; l <= 1; l++) {
                ModelTest one = new ModelTest(word);
                one.poke(0, word);
                one.set(0, ac);
                one.set(1, l);
                one.set(3, 01463);
                one.set(4, 00707);
                one.runSteps(1);
                for (int k = 0; k <= 10; k++) {
                    one.register(k);
                }
            }
        }
    }
}
