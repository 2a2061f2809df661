/** The boundary cases of promises 6 and 7: set and register. */
public final class RegisterEdgesTest {
    private static final Checks CHECKS = new Checks();
    private static final String[] NAMES = {"AC", "L", "PC", "MQ", "SR"};
    private static final int[] VALUES = {
        0, 1, 2, 3, 4094, 4095, 4096, 4097, 8191, 65536,
        -1, -2, -4095, -4096, -4097, Integer.MAX_VALUE, Integer.MIN_VALUE, Integer.MIN_VALUE + 1,
    };

    public static void main(String[] args) {
        firstAndLastRegisterAreSet();
        wordsKeepTheLowestTwelveBits();
        linkKeepsTheLowestBit();
        belowTheFirstIsRefused();
        aboveTheLastIsRefused();
        setIsTakenWhenHalted();
        registerTellsAllFromNoughtToTen();
        registerTellsTheGreatest();
        otherNumbersAreMinusOne();
        registerChangesNothing();
        CHECKS.end();
    }

    private static void setDue(Setup setup, int k, int v, int value) {
        CHECKS.due("set " + k + " to " + v, setup.make().set(k, v), true);
        CHECKS.changesDue("set " + k + " to " + v, setup, m -> m.set(k, v), NAMES[k] + "=" + value);
    }

    private static void refusedDue(int k) {
        Setup[] setups = {Setup.fresh(), Setup.busy(), Setup.halted()};
        int[] values = {0, 1, 05252};
        for (Setup setup : setups) {
            for (int v : values) {
                CHECKS.due("set " + k + " to " + v, setup.make().set(k, v), false);
                CHECKS.nothingChanges("set " + k + " to " + v, setup, m -> m.set(k, v));
            }
        }
    }

    /** "false .. if k is not 0 .. 4": 0 and 4, and those between, are set and nothing else. */
    private static void firstAndLastRegisterAreSet() {
        for (int k = 0; k <= 4; k++) {
            setDue(Setup.fresh(), k, 1, 1);
            setDue(Setup.busy(), k, 0, 0);
        }
    }

    /** "becomes the lowest 12 bits of v", as in v & 4095, also for a negative v. */
    private static void wordsKeepTheLowestTwelveBits() {
        int[] due = {0, 1, 2, 3, 4094, 4095, 0, 1, 4095, 0, 4095, 4094, 1, 0, 4095, 4095, 0, 1};
        int[] words = {Checks.AC, Checks.PC, Checks.MQ, Checks.SR};
        for (int k : words) {
            for (int i = 0; i < VALUES.length; i++) {
                setDue(Setup.busy(), k, VALUES[i], due[i]);
            }
        }
    }

    /** "L the lowest bit". */
    private static void linkKeepsTheLowestBit() {
        int[] due = {0, 1, 0, 1, 0, 1, 0, 1, 1, 0, 1, 0, 1, 0, 1, 1, 0, 1};
        for (int i = 0; i < VALUES.length; i++) {
            setDue(Setup.fresh(), Checks.L, VALUES[i], due[i]);
            setDue(Setup.busy(), Checks.L, VALUES[i], due[i]);
        }
    }

    /** "false (and nothing changes) if k is not 0 .. 4": -1 and below. */
    private static void belowTheFirstIsRefused() {
        int[] wrong = {-1, -2, -4, -5, Integer.MIN_VALUE};
        for (int k : wrong) {
            refusedDue(k);
        }
    }

    /** "false (and nothing changes) if k is not 0 .. 4": 5 and above, those that register tells too. */
    private static void aboveTheLastIsRefused() {
        int[] wrong = {5, 6, 7, 8, 9, 10, 11, 16, 256, Integer.MAX_VALUE};
        for (int k : wrong) {
            refusedDue(k);
        }
    }

    private static void setIsTakenWhenHalted() {
        for (int k = 0; k <= 4; k++) {
            setDue(Setup.halted(), k, 0, 0);
        }
    }

    /** "Register k as in set; 5 ION .. 10 HALTED (1 if set, 0 if not, but for 8)". */
    private static void registerTellsAllFromNoughtToTen() {
        registersDue("new", Setup.fresh(), 0, 0, 0, 0, 0, 0, 0, 0, 0, 0, 0);
        registersDue("busy", Setup.busy(), 01234, 1, 0211, 04567, 07654, 1, 1, 1, 0123, 1, 0);
        registersDue("halted", Setup.halted(), 01234, 1, 2, 04567, 07654, 1, 0, 1, 0123, 1, 1);
    }

    private static void registersDue(String what, Setup setup, int... want) {
        for (int k = 0; k < want.length; k++) {
            CHECKS.due(what + ", register " + k, setup.make().register(k), want[k]);
        }
    }

    /** BUFFER is told with its 8 bits, and not as 1 or 0. */
    private static void registerTellsTheGreatest() {
        int[] bytes = {0, 1, 2, 0377};
        for (int b : bytes) {
            TapeMachine machine = Setup.at(0, 06032).fed(b).ran(1).make();
            CHECKS.due("BUFFER " + b, machine.register(Checks.BUFFER), b);
            CHECKS.due("the flag with BUFFER " + b, machine.register(Checks.READER_FLAG), 1);
        }
        registersDue("greatest", Setup.fresh().ac(-1).link(-1).pc(-1).register(3, -1).register(4, -1),
                07777, 1, 07777, 07777, 07777);
    }

    /** "-1 for another k": -1 and below, 11 and above. */
    private static void otherNumbersAreMinusOne() {
        int[] others = {-1, -2, -10, Integer.MIN_VALUE, 11, 12, 16, 256, Integer.MAX_VALUE};
        for (int k : others) {
            CHECKS.due("register " + k + ", new", Setup.fresh().make().register(k), -1);
            CHECKS.due("register " + k + ", busy", Setup.busy().make().register(k), -1);
            CHECKS.due("register " + k + ", halted", Setup.halted().make().register(k), -1);
        }
    }

    private static void registerChangesNothing() {
        for (int k = -1; k <= 11; k++) {
            int number = k;
            CHECKS.nothingChanges("register " + k, Setup.busy(), m -> m.register(number));
            CHECKS.nothingChanges("register " + k + ", halted", Setup.halted(), m -> m.register(number));
        }
    }
}
