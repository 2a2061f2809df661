/** Promise 10: printed. */
public final class PrintedTest {
    private static final Checks CHECKS = new Checks();
    private static final int PRINT = 06046;

    public static void main(String[] args) {
        bytesAreCountedFromTheLatest();
        sixtyFourAreKept();
        wrongNumbers();
        manyArePrinted();
        CHECKS.end();
    }

    private static void bytesAreCountedFromTheLatest() {
        TapeMachine machine = Checks.loaded(0, 06044, 06046);
        machine.set(Checks.AC, 07501);
        machine.run(1);
        CHECKS.due("printed by 06044", machine.printed(0), 0101);
        CHECKS.due("only one", machine.printed(1), -1);
        CHECKS.due("how many", machine.printed(-1), 1);
        machine.set(Checks.AC, 07777);
        machine.run(1);
        CHECKS.due("printed by 06046", machine.printed(0), 0377);
        CHECKS.due("the one before", machine.printed(1), 0101);
        CHECKS.due("only two", machine.printed(2), -1);
        CHECKS.due("how many", machine.printed(-1), 2);
        CHECKS.due("AC stays", machine.register(Checks.AC), 07777);
    }

    /** Prints 1, 2, 3 and so on: three words a byte. */
    private static TapeMachine counting(int bytes) {
        TapeMachine machine = Checks.loaded(0, 07001, PRINT, 05000);
        for (int left = bytes; left > 0; left -= 500) {
            machine.run(3 * Math.min(left, 500));
        }
        return machine;
    }

    private static void sixtyFourAreKept() {
        int[] numbers = {1, 63, 64, 65, 127, 128, 129, 300};
        for (int n : numbers) {
            TapeMachine machine = counting(n);
            CHECKS.due(n + " printed, how many", machine.printed(-1), n);
            for (int k = 0; k < 64; k++) {
                int want = k < n ? (n - k) & 0377 : -1;
                CHECKS.due(n + " printed, number " + k, machine.printed(k), want);
            }
            CHECKS.due(n + " printed, number 64", machine.printed(64), -1);
        }
    }

    private static void wrongNumbers() {
        TapeMachine machine = counting(100);
        int[] wrong = {64, 65, 99, 100, -2, -64, Integer.MIN_VALUE, Integer.MAX_VALUE};
        for (int k : wrong) {
            CHECKS.due("printed " + k, machine.printed(k), -1);
        }
    }

    private static void manyArePrinted() {
        TapeMachine machine = counting(100 * 500);
        CHECKS.due("many printed, how many", machine.printed(-1), 50000);
        CHECKS.due("many printed, the latest", machine.printed(0), 50000 & 0377);
        CHECKS.due("many printed, the oldest kept", machine.printed(63), (50000 - 63) & 0377);
    }
}
