/** Promise 12: interrupts, and how a step begins. */
public final class InterruptsTest {
    private static final Checks CHECKS = new Checks();
    private static final int ON = 06001;
    private static final int OFF = 06002;
    private static final int PRINT = 06046;
    private static final int READ = 06032;

    public static void main(String[] args) {
        printerInterrupts();
        readerInterrupts();
        noFlagNoInterrupt();
        offNoInterrupt();
        oneStepLiesBetween();
        offInTheDelay();
        offWhenOn();
        delayAndInterruptInOneStep();
        handlerTurnsOnWithTheFlag();
        wordAtOneIsTakenAfterTheInterrupt();
        interruptedHandlerIsNotInterrupted();
        manyInterrupts();
        interruptIsOneStep();
        haltedMachineIsNotInterrupted();
        CHECKS.end();
    }

    private static void printerInterrupts() {
        TapeMachine machine = Checks.loaded(0200, ON, PRINT, Checks.NOTHING);
        machine.poke(1, 07001);
        machine.poke(2, Checks.HALT);
        machine.run(2);
        CHECKS.due("interrupts before", machine.interrupts(), 0);
        CHECKS.due("ION before", machine.register(Checks.ION), 1);
        machine.run(1);
        CHECKS.due("interrupts after", machine.interrupts(), 1);
        CHECKS.due("word at 0", machine.peek(0), 0202);
        CHECKS.registersDue("interrupted", machine, 1, 0, 2);
        CHECKS.due("ION after", machine.register(Checks.ION), 0);
        CHECKS.due("the flag stays", machine.register(Checks.PRINTER_FLAG), 1);
    }

    private static void readerInterrupts() {
        TapeMachine machine = Checks.loaded(07776, ON, READ);
        machine.poke(1, Checks.HALT);
        machine.poke(0, 01234);
        machine.feed(5);
        CHECKS.due("run", machine.run(10), 3);
        CHECKS.due("interrupts by the reader", machine.interrupts(), 1);
        CHECKS.due("PC 0 is kept at 0", machine.peek(0), 0);
        CHECKS.due("the flag stays", machine.register(Checks.READER_FLAG), 1);
        CHECKS.due("PC", machine.register(Checks.PC), 2);
    }

    private static void noFlagNoInterrupt() {
        TapeMachine machine = Checks.loaded(0200, ON, READ, 06030, Checks.NOTHING, Checks.HALT);
        CHECKS.due("run with an empty tape", machine.run(10), 5);
        CHECKS.due("no interrupt", machine.interrupts(), 0);
        CHECKS.due("ION stays", machine.register(Checks.ION), 1);
    }

    private static void offNoInterrupt() {
        TapeMachine machine = Checks.loaded(0200, PRINT, READ, Checks.NOTHING, Checks.HALT);
        machine.feed(1);
        CHECKS.due("run without 06001", machine.run(10), 4);
        CHECKS.due("no interrupt without 06001", machine.interrupts(), 0);
        CHECKS.due("both flags, reader", machine.register(Checks.READER_FLAG), 1);
        CHECKS.due("both flags, printer", machine.register(Checks.PRINTER_FLAG), 1);
    }

    private static void oneStepLiesBetween() {
        // The flag is there before 06001: the word behind it is still done.
        TapeMachine machine = Checks.loaded(0200, PRINT, ON, 05300);
        machine.poke(1, Checks.HALT);
        CHECKS.due("run", machine.run(10), 4);
        CHECKS.due("interrupts", machine.interrupts(), 1);
        CHECKS.due("the jump was done", machine.peek(0), 0300);
        CHECKS.due("trace of the jump", machine.trace(1), 0202);
    }

    private static void offInTheDelay() {
        TapeMachine machine = Checks.loaded(0200, PRINT, ON, OFF, Checks.NOTHING, Checks.HALT);
        machine.run(2);
        CHECKS.due("DELAY", machine.register(Checks.DELAY), 1);
        machine.run(1);
        CHECKS.due("DELAY after 06002", machine.register(Checks.DELAY), 0);
        CHECKS.due("ION after 06002", machine.register(Checks.ION), 0);
        machine.run(10);
        CHECKS.due("no interrupt", machine.interrupts(), 0);
    }

    private static void offWhenOn() {
        // The second 06001 sets DELAY with ION set; 06002 has to take both away.
        TapeMachine machine = Checks.loaded(0200, ON, Checks.NOTHING, ON, OFF, PRINT, Checks.NOTHING, Checks.HALT);
        machine.run(3);
        CHECKS.due("ION with DELAY", machine.register(Checks.ION), 1);
        CHECKS.due("DELAY with ION", machine.register(Checks.DELAY), 1);
        CHECKS.due("run", machine.run(10), 4);
        CHECKS.due("ION off", machine.register(Checks.ION), 0);
        CHECKS.due("DELAY off", machine.register(Checks.DELAY), 0);
        CHECKS.due("no interrupt", machine.interrupts(), 0);
    }

    private static void delayAndInterruptInOneStep() {
        // The second 06001 is done in the step that sets ION, with the flag set: the next step has
        // ION, DELAY and a flag. The interrupt takes ION away and DELAY sets it again at once, so
        // that the step behind is interrupted too.
        TapeMachine machine = Checks.loaded(0200, PRINT, ON, ON, Checks.NOTHING);
        machine.poke(1, 07001);
        machine.poke(2, Checks.HALT);
        machine.run(3);
        CHECKS.due("no interrupt yet", machine.interrupts(), 0);
        CHECKS.due("ION before", machine.register(Checks.ION), 1);
        CHECKS.due("DELAY before", machine.register(Checks.DELAY), 1);
        machine.run(1);
        CHECKS.due("first interrupt", machine.interrupts(), 1);
        CHECKS.due("word at 0", machine.peek(0), 0203);
        CHECKS.due("ION is set again", machine.register(Checks.ION), 1);
        CHECKS.due("DELAY is used up", machine.register(Checks.DELAY), 0);
        CHECKS.registersDue("first interrupt", machine, 1, 0, 2);
        machine.run(1);
        CHECKS.due("second interrupt", machine.interrupts(), 2);
        CHECKS.due("word at 0 again", machine.peek(0), 2);
        CHECKS.due("ION is off", machine.register(Checks.ION), 0);
        CHECKS.registersDue("second interrupt", machine, 2, 0, 2);
        CHECKS.due("run to the handler's halt", machine.run(10), 1);
        CHECKS.due("no third interrupt", machine.interrupts(), 2);
    }

    private static void handlerTurnsOnWithTheFlag() {
        TapeMachine machine = Checks.loaded(0200, ON, READ, Checks.NOTHING);
        machine.poke(1, ON);
        machine.poke(2, Checks.NOTHING);
        machine.feed(1);
        machine.run(3);
        CHECKS.due("interrupt", machine.interrupts(), 1);
        CHECKS.due("ION in the handler", machine.register(Checks.ION), 0);
        CHECKS.due("DELAY in the handler", machine.register(Checks.DELAY), 1);
        machine.run(1);
        CHECKS.due("ION a step later", machine.register(Checks.ION), 1);
        CHECKS.due("no interrupt in that step", machine.interrupts(), 1);
        machine.run(1);
        CHECKS.due("the handler is interrupted", machine.interrupts(), 2);
        CHECKS.due("PC of the handler is kept", machine.peek(0), 3);
    }

    private static void wordAtOneIsTakenAfterTheInterrupt() {
        // PC is 1 already: the interrupt keeps it, and the same word is done.
        TapeMachine machine = Checks.loaded(07777, ON, PRINT);
        machine.poke(1, 01000);
        CHECKS.due("run", machine.run(3), 3);
        CHECKS.due("word at 0 is PC", machine.peek(0), 1);
        CHECKS.registersDue("TAD of the word at 0", machine, 1, 0, 2);
    }

    private static void interruptedHandlerIsNotInterrupted() {
        TapeMachine machine = Checks.loaded(0200, ON, PRINT, Checks.NOTHING);
        machine.poke(1, Checks.NOTHING);
        machine.poke(2, PRINT);
        machine.poke(3, Checks.HALT);
        CHECKS.due("run through the handler", machine.run(10), 5);
        CHECKS.due("one interrupt", machine.interrupts(), 1);
    }

    private static void manyInterrupts() {
        // Main: print and jump back. Handler: flag off, on again, jump through 0.
        TapeMachine machine = Checks.loaded(0200, ON, PRINT, 05201);
        machine.poke(1, 06042);
        machine.poke(2, ON);
        machine.poke(3, 05400);
        machine.run(2);
        for (int i = 1; i <= 5; i++) {
            machine.run(3);
            CHECKS.due("interrupts in round " + i, machine.interrupts(), i);
            CHECKS.due("back at the jump in round " + i, machine.register(Checks.PC), 0202);
            machine.run(2);
        }
        CHECKS.due("printed", machine.printed(-1), 6);
    }

    private static void interruptIsOneStep() {
        TapeMachine machine = Checks.loaded(0200, ON, PRINT, Checks.NOTHING);
        machine.poke(1, Checks.NOTHING);
        machine.run(2);
        CHECKS.due("run 1 with the interrupt", machine.run(1), 1);
        CHECKS.due("PC", machine.register(Checks.PC), 2);
        CHECKS.due("an interrupt is no skip", machine.skips(), 0);
    }

    private static void haltedMachineIsNotInterrupted() {
        TapeMachine machine = Checks.loaded(0200, ON, Checks.NOTHING, PRINT);
        machine.poke(1, Checks.NOTHING);
        machine.poke(0203, Checks.HALT);
        machine.run(3);
        CHECKS.due("run 0 makes no interrupt", machine.run(0), 0);
        CHECKS.due("interrupts after run 0", machine.interrupts(), 0);

        TapeMachine halted = Checks.loaded(0200, ON, Checks.HALT);
        halted.run(10);
        CHECKS.due("ION at the halt", halted.register(Checks.ION), 1);
        halted.poke(0202, PRINT);
        halted.run(10);
        CHECKS.due("no print when halted", halted.printed(-1), 0);
        halted.go();
        halted.poke(1, Checks.HALT);
        CHECKS.due("run after go", halted.run(10), 2);
        CHECKS.due("interrupts after go", halted.interrupts(), 1);
    }
}
