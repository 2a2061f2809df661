/** Promises 6 and 7: set and register. */
public final class RegistersTest {
    private static final Checks CHECKS = new Checks();

    public static void main(String[] args) {
        registersKeepWords();
        linkKeepsOneBit();
        wrongNumbersAreRefused();
        flagsAreAnswered();
        CHECKS.end();
    }

    private static void registersKeepWords() {
        int[] words = {Checks.AC, Checks.PC, Checks.MQ, Checks.SR};
        int[][] cases = {
            {0, 0}, {1, 1}, {07777, 07777}, {010000, 0}, {012345, 02345}, {-1, 07777}, {-4095, 1},
            {Integer.MIN_VALUE, 0}, {Integer.MAX_VALUE, 07777},
        };
        for (int k : words) {
            TapeMachine machine = new TapeMachine();
            for (int[] c : cases) {
                CHECKS.due("set " + k + " to " + c[0], machine.set(k, c[0]), true);
                CHECKS.due("register " + k + " set to " + c[0], machine.register(k), c[1]);
            }
            onlyOneIsSet(machine, k, 07777);
        }
    }

    private static void linkKeepsOneBit() {
        TapeMachine machine = new TapeMachine();
        int[][] cases = {{1, 1}, {2, 0}, {3, 1}, {0, 0}, {-1, 1}, {-2, 0}, {07777, 1}, {010000, 0}};
        for (int[] c : cases) {
            CHECKS.due("set L to " + c[0], machine.set(Checks.L, c[0]), true);
            CHECKS.due("L set to " + c[0], machine.register(Checks.L), c[1]);
        }
        machine.set(Checks.L, 1);
        onlyOneIsSet(machine, Checks.L, 1);
    }

    private static void onlyOneIsSet(TapeMachine machine, int k, int value) {
        for (int other = 0; other <= 10; other++) {
            CHECKS.due("register " + other + " with " + k + " set", machine.register(other), other == k ? value : 0);
        }
    }

    private static void wrongNumbersAreRefused() {
        TapeMachine machine = new TapeMachine();
        for (int k = 0; k <= 4; k++) {
            machine.set(k, 1);
        }
        int[] wrong = {-1, 5, 6, 7, 8, 9, 10, 11, 256, Integer.MIN_VALUE, Integer.MAX_VALUE};
        for (int k : wrong) {
            CHECKS.due("set " + k, machine.set(k, 0), false);
            CHECKS.due("set " + k, machine.set(k, 1), false);
        }
        for (int k = 0; k <= 10; k++) {
            CHECKS.due("register " + k + ", nothing changed", machine.register(k), k <= 4 ? 1 : 0);
        }
        int[] unknown = {-1, 11, 12, 256, Integer.MIN_VALUE, Integer.MAX_VALUE};
        for (int k : unknown) {
            CHECKS.due("register " + k, machine.register(k), -1);
        }
    }

    private static void flagsAreAnswered() {
        TapeMachine machine = Checks.loaded(0200, 06001, Checks.NOTHING, 06032, 06044, Checks.HALT);
        machine.poke(1, Checks.NOTHING);
        machine.feed(0377);
        machine.run(1);
        flagsDue("after 06001", machine, 0, 1, 0, 0, 0, 0);
        machine.run(1);
        flagsDue("a step later", machine, 1, 0, 0, 0, 0, 0);
        machine.run(1);
        flagsDue("after 06032", machine, 1, 0, 1, 0377, 0, 0);
        machine.run(1);
        flagsDue("after the interrupt", machine, 0, 0, 1, 0377, 0, 0);
        machine.set(Checks.PC, 0203);
        machine.run(1);
        flagsDue("after 06044", machine, 0, 0, 1, 0377, 1, 0);
        machine.run(1);
        flagsDue("after the halt", machine, 0, 0, 1, 0377, 1, 1);
    }

    private static void flagsDue(String what, TapeMachine machine, int... want) {
        for (int i = 0; i < want.length; i++) {
            CHECKS.due(what + ", register " + (5 + i), machine.register(5 + i), want[i]);
        }
    }
}
