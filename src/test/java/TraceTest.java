/** Promise 11: trace. */
public final class TraceTest {
    private static final Checks CHECKS = new Checks();

    public static void main(String[] args) {
        hereIsTraced();
        sixtyFourAreKept();
        wrongNumbers();
        interruptTracesOne();
        setAndPokeAreNoSteps();
        CHECKS.end();
    }

    private static void hereIsTraced() {
        // JMP 0300, then a skip, then a halt.
        TapeMachine machine = Checks.loaded(0200, 05300);
        machine.poke(0300, 07410);
        machine.poke(0302, Checks.HALT);
        machine.run(10);
        CHECKS.due("trace 0", machine.trace(0), 0302);
        CHECKS.due("trace 1", machine.trace(1), 0300);
        CHECKS.due("trace 2", machine.trace(2), 0200);
        CHECKS.due("trace 3", machine.trace(3), -1);
    }

    private static void sixtyFourAreKept() {
        int[] numbers = {1, 63, 64, 65, 128, 129, 2000};
        for (int n : numbers) {
            TapeMachine machine = new TapeMachine();
            machine.set(Checks.PC, 03000);
            machine.run(n);
            for (int k = 0; k < 64; k++) {
                int want = k < n ? (03000 + n - 1 - k) & 07777 : -1;
                CHECKS.due(n + " steps, trace " + k, machine.trace(k), want);
            }
            CHECKS.due(n + " steps, trace 64", machine.trace(64), -1);
        }
    }

    private static void wrongNumbers() {
        TapeMachine machine = new TapeMachine();
        machine.run(200);
        int[] wrong = {-1, -2, 64, 65, 199, 200, Integer.MIN_VALUE, Integer.MAX_VALUE};
        for (int k : wrong) {
            CHECKS.due("trace " + k, machine.trace(k), -1);
        }
    }

    private static void interruptTracesOne() {
        TapeMachine machine = Checks.loaded(0200, 06001, 06046, Checks.NOTHING);
        machine.poke(1, Checks.HALT);
        CHECKS.due("run with an interrupt", machine.run(10), 3);
        CHECKS.due("HERE of the interrupted step", machine.trace(0), 1);
        CHECKS.due("HERE before", machine.trace(1), 0201);
        CHECKS.due("HERE of the first", machine.trace(2), 0200);
        CHECKS.due("no more", machine.trace(3), -1);
    }

    private static void setAndPokeAreNoSteps() {
        TapeMachine machine = new TapeMachine();
        machine.set(Checks.PC, 0400);
        machine.poke(0400, Checks.HALT);
        machine.run(0);
        CHECKS.due("trace before a step", machine.trace(0), -1);
        machine.run(1);
        machine.set(Checks.PC, 0500);
        machine.run(1);
        CHECKS.due("trace after one step", machine.trace(0), 0400);
        CHECKS.due("trace 1 after one step", machine.trace(1), -1);
    }
}
