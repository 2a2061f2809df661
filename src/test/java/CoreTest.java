/** Promises 4 and 5: poke and peek. */
public final class CoreTest {
    private static final Checks CHECKS = new Checks();

    public static void main(String[] args) {
        pokeAnswersTheOldWord();
        lowestTwelveBitsAreKept();
        wrongAddressesAreRefused();
        everyAddressIsItsOwn();
        CHECKS.end();
    }

    private static void pokeAnswersTheOldWord() {
        TapeMachine machine = new TapeMachine();
        CHECKS.due("first poke", machine.poke(100, 01234), 0);
        CHECKS.due("peek", machine.peek(100), 01234);
        CHECKS.due("second poke", machine.poke(100, 07777), 01234);
        CHECKS.due("third poke", machine.poke(100, 0), 07777);
        CHECKS.due("peek", machine.peek(100), 0);
        CHECKS.due("peek beside", machine.peek(101), 0);
    }

    private static void lowestTwelveBitsAreKept() {
        TapeMachine machine = new TapeMachine();
        int[][] cases = {
            {010000, 0}, {017777, 07777}, {-1, 07777}, {-4096, 0}, {-4095, 1},
            {Integer.MIN_VALUE, 0}, {Integer.MAX_VALUE, 07777},
        };
        for (int[] c : cases) {
            machine.poke(5, c[0]);
            CHECKS.due("peek after poke " + c[0], machine.peek(5), c[1]);
        }
    }

    private static void wrongAddressesAreRefused() {
        TapeMachine machine = new TapeMachine();
        machine.poke(0, 1);
        machine.poke(4095, 2);
        int[] wrong = {-1, 4096, 4097, 8191, -4096, Integer.MIN_VALUE, Integer.MAX_VALUE};
        for (int a : wrong) {
            CHECKS.due("poke at " + a, machine.poke(a, 077), -1);
            CHECKS.due("peek at " + a, machine.peek(a), -1);
        }
        CHECKS.due("peek 0, nothing changed", machine.peek(0), 1);
        CHECKS.due("peek 4095, nothing changed", machine.peek(4095), 2);
        CHECKS.due("peek 1, nothing changed", machine.peek(1), 0);
    }

    private static void everyAddressIsItsOwn() {
        for (int from = 0; from < 4096; from += 128) {
            TapeMachine machine = new TapeMachine();
            for (int a = from; a < from + 128; a++) {
                CHECKS.due("poke " + a, machine.poke(a, a ^ 05252), 0);
            }
            for (int a = from; a < from + 128; a++) {
                CHECKS.due("peek " + a, machine.peek(a), a ^ 05252);
            }
        }
    }
}
