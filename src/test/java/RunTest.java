/** Promises 8 and 9: go and run. */
public final class RunTest {
    private static final Checks CHECKS = new Checks();

    public static void main(String[] args) {
        numbersOfSteps();
        wrongNumbersMakeNone();
        haltEndsARun();
        goTakesTheHaltAway();
        programCounterGoesRound();
        CHECKS.end();
    }

    private static void numbersOfSteps() {
        int[] numbers = {0, 1, 2, 1999, 2000};
        for (int n : numbers) {
            TapeMachine machine = new TapeMachine();
            CHECKS.due("run " + n, machine.run(n), n);
            // A word of 0 is AND with the word at 0: it changes PC alone.
            CHECKS.due("PC after run " + n, machine.register(Checks.PC), n);
        }
    }

    private static void wrongNumbersMakeNone() {
        TapeMachine machine = new TapeMachine();
        int[] wrong = {-1, 2001, 4096, Integer.MIN_VALUE, Integer.MAX_VALUE};
        for (int n : wrong) {
            CHECKS.due("run " + n, machine.run(n), 0);
        }
        CHECKS.due("PC after wrong runs", machine.register(Checks.PC), 0);
        CHECKS.due("trace after wrong runs", machine.trace(0), -1);
    }

    private static void haltEndsARun() {
        TapeMachine machine = Checks.loaded(0200, 07001, 07001, Checks.HALT, 07001);
        CHECKS.due("run to the halt", machine.run(2000), 3);
        CHECKS.registersDue("at the halt", machine, 2, 0, 0203);
        CHECKS.due("HALTED", machine.register(Checks.HALTED), 1);
        CHECKS.due("run when halted", machine.run(5), 0);
        CHECKS.due("run 0 when halted", machine.run(0), 0);
        CHECKS.due("run 2001 when halted", machine.run(2001), 0);
        CHECKS.registersDue("still at the halt", machine, 2, 0, 0203);
        CHECKS.due("trace, no step more", machine.trace(0), 0202);
        CHECKS.due("trace, three steps", machine.trace(3), -1);

        TapeMachine exact = Checks.loaded(0200, Checks.NOTHING, Checks.HALT);
        CHECKS.due("run that ends on the halt", exact.run(2), 2);
        CHECKS.due("HALTED on the last step", exact.register(Checks.HALTED), 1);
        TapeMachine before = Checks.loaded(0200, Checks.NOTHING, Checks.HALT);
        CHECKS.due("run that ends before the halt", before.run(1), 1);
        CHECKS.due("HALTED before it", before.register(Checks.HALTED), 0);
    }

    private static void goTakesTheHaltAway() {
        TapeMachine machine = Checks.loaded(0200, Checks.HALT, 07001, Checks.HALT);
        CHECKS.due("go before a halt", machine.go(), false);
        machine.run(10);
        CHECKS.due("go after a halt", machine.go(), true);
        CHECKS.due("HALTED after go", machine.register(Checks.HALTED), 0);
        CHECKS.due("go again", machine.go(), false);
        CHECKS.registersDue("go makes no step", machine, 0, 0, 0201);
        CHECKS.due("run after go", machine.run(10), 2);
        CHECKS.registersDue("run after go", machine, 1, 0, 0203);
        CHECKS.due("go after the second halt", machine.go(), true);
    }

    private static void programCounterGoesRound() {
        TapeMachine machine = Checks.loaded(07777, 07001, Checks.HALT);
        CHECKS.due("run over the end", machine.run(10), 2);
        CHECKS.registersDue("over the end", machine, 1, 0, 1);
        // PC is 0 already when the word at 07777 skips.
        TapeMachine skipping = Checks.loaded(07777, 07410, Checks.HALT, 07001);
        skipping.run(1);
        CHECKS.registersDue("skip over the end", skipping, 0, 0, 1);
        TapeMachine toZero = Checks.loaded(07776, 07410);
        toZero.run(1);
        CHECKS.registersDue("skip to 0", toZero, 0, 0, 0);
    }
}
