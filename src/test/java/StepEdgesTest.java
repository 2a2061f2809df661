/** The boundary cases of how a step begins: the interrupt and DELAY. */
public final class StepEdgesTest {
    private static final Checks CHECKS = new Checks();

    public static void main(String[] args) {
        everyStateOfFlagsIonAndDelay();
        interruptAtEitherEndOfTheCore();
        interruptWhenTheWordAtOneIsNext();
        interruptWritesNoughtFirst();
        wordsBehindTurningOn();
        turningOnIsHeldBackByOneStep();
        turningOffInTheStepBetween();
        flagThatGoesBeforeTheStep();
        flagThatComesInTheStep();
        haltKeepsTheInterruptDue();
        CHECKS.end();
    }

    /** The words that make this state, from 0300 on; the flags first, so that no interrupt comes between. */
    private static Setup state(boolean reader, boolean printer, boolean ion, boolean delay) {
        int[] words = {
            reader ? 06032 : Checks.NOTHING,
            printer ? 06046 : Checks.NOTHING,
            ion ? 06001 : Checks.NOTHING,
            delay ? 06001 : Checks.NOTHING,
        };
        return Setup.at(0300, words).word(1, 07001).word(0, 01111).fed(0123).ran(4);
    }

    /** Its effect on PC and ION, of a step at 0500 that does nothing more, or of 07001 at 1. */
    private static String due(boolean flag, boolean ion, boolean delay) {
        String changes = "DELAY=0 ION=" + (delay || ion && !flag ? 1 : 0);
        return ion && flag ? changes + " @0=0500 PC=2 AC=1 interrupts=1" : changes + " PC=0501";
    }

    /** "If ION is set and one of the two flags is set ..": all 16 states, the flags both too. */
    private static void everyStateOfFlagsIonAndDelay() {
        for (int bits = 0; bits < 16; bits++) {
            boolean reader = (bits & 1) != 0;
            boolean printer = (bits & 2) != 0;
            boolean ion = (bits & 4) != 0;
            boolean delay = (bits & 8) != 0;
            String what = "reader " + reader + ", printer " + printer + ", ION " + ion + ", DELAY " + delay;
            Setup setup = state(reader, printer, ion, delay).word(0500, Checks.NOTHING).pc(0500);
            TapeMachine machine = setup.make();
            CHECKS.due(what + ": reader", machine.register(Checks.READER_FLAG) == 1, reader);
            CHECKS.due(what + ": printer", machine.register(Checks.PRINTER_FLAG) == 1, printer);
            CHECKS.due(what + ": ION", machine.register(Checks.ION) == 1, ion);
            CHECKS.due(what + ": DELAY", machine.register(Checks.DELAY) == 1, delay);
            CHECKS.stepDue(what, setup, due(reader || printer, ion, delay));
        }
    }

    /** "the word at 0 becomes PC, PC becomes 1": PC 0 and PC 07777. */
    private static void interruptAtEitherEndOfTheCore() {
        Setup first = state(true, false, true, false).pc(0);
        CHECKS.stepDue("interrupt at 0", first, "@0=0 PC=2 AC=1 ION=0 interrupts=1");
        Setup last = state(true, false, true, false).pc(07777);
        CHECKS.stepDue("interrupt at 07777", last, "@0=07777 PC=2 AC=1 ION=0 interrupts=1");
        Setup round = Setup.at(07775, 06046, 06001, Checks.NOTHING).word(1, 07001).word(0, 01111).ran(3);
        CHECKS.stepDue("interrupt behind 07777", round, "@0=0 PC=2 AC=1 ION=0 interrupts=1");
    }

    private static void interruptWhenTheWordAtOneIsNext() {
        Setup setup = state(false, true, true, false).pc(1);
        CHECKS.stepDue("interrupt at 1", setup, "@0=1 PC=2 AC=1 ION=0 interrupts=1");
    }

    /** "Then w is the word at PC": after the word at 0 has become PC, which the word at 1 meets. */
    private static void interruptWritesNoughtFirst() {
        Setup read = state(true, true, true, false).word(1, 01000).pc(0500);
        CHECKS.stepDue("TAD 0 at 1", read, "@0=0500 AC=0500 PC=2 ION=0 interrupts=1");
        Setup jump = state(true, true, true, false).word(1, 05400).pc(0500);
        CHECKS.stepDue("JMP by 0 at 1", jump, "@0=0500 PC=0500 ION=0 interrupts=1");
        Setup count = state(true, true, true, false).word(1, 02000).pc(07777);
        CHECKS.stepDue("ISZ 0 at 1", count, "@0=0 PC=3 ION=0 interrupts=1 skips=1");
        Setup page = state(true, true, true, false).word(1, 03377).ac(5).pc(0500);
        CHECKS.stepDue("HERE is 1 for the page", page, "@0=0500 @0177=5 AC=0 PC=2 ION=0 interrupts=1");
    }

    /** "06001 DELAY is set": again, with ION set, and in an interrupt. */
    private static void wordsBehindTurningOn() {
        CHECKS.stepDue("06001", Setup.at(0200, 06001), "DELAY=1 PC=0201");
        CHECKS.stepDue("06001 behind 06001", Setup.at(0200, 06001, 06001).ran(1), "ION=1 DELAY=1 PC=0202");
        CHECKS.stepDue("06001 with ION", Setup.at(0200, 06001, 0, 06001).ran(2), "DELAY=1 PC=0203");
        Setup handler = state(true, false, true, false).word(1, 06001).pc(0500);
        CHECKS.stepDue("06001 at 1", handler, "@0=0500 PC=2 ION=0 DELAY=1 interrupts=1");
    }

    /** The flag is set before 06001: the word behind it is done, and only then comes the interrupt. */
    private static void turningOnIsHeldBackByOneStep() {
        Setup setup = Setup.at(0200, 06046, 06001, 05300).word(1, 07001).ran(2);
        CHECKS.stepDue("the word behind 06001", setup, "ION=1 DELAY=0 PC=0300");
        CHECKS.stepDue("the step behind that", setup.ran(1), "@0=0300 PC=2 AC=1 ION=0 interrupts=1");
    }

    /** "06002 ION and DELAY are no longer set": as the word behind 06001, and with none of them set. */
    private static void turningOffInTheStepBetween() {
        Setup setup = Setup.at(0200, 06046, 06001, 06002, Checks.NOTHING).ran(2);
        CHECKS.stepDue("06002 behind 06001", setup, "ION=0 DELAY=0 PC=0203");
        CHECKS.stepDue("the word behind 06002", setup.ran(1), "PC=0204");
        CHECKS.stepDue("06002 with ION", Setup.at(0200, 06001, 0, 06002).ran(2), "ION=0 PC=0203");
        CHECKS.stepDue("06002 with neither", Setup.at(0200, 06002), "PC=0201");
        Setup late = Setup.at(0200, 06046, 06001, Checks.NOTHING, 06002).word(1, 07001).ran(3);
        CHECKS.stepDue("06002 a step too late", late, "@0=0203 PC=2 AC=1 ION=0 interrupts=1");
    }

    /** The word behind 06001 takes the flag away: no interrupt. */
    private static void flagThatGoesBeforeTheStep() {
        Setup printer = Setup.at(0200, 06046, 06001, 06042).ran(3);
        CHECKS.stepDue("the printer's flag is gone", printer, "PC=0204");
        Setup reader = Setup.at(0200, 06032, 06001, 06030).fed(5).ran(3);
        CHECKS.stepDue("the reader's flag is gone", reader, "PC=0204");
        Setup one = Setup.at(0200, 06032, 06046, 06001, 06042).word(1, 07001).fed(5).ran(4);
        CHECKS.stepDue("one of two flags is gone", one, "@0=0204 PC=2 AC=1 ION=0 interrupts=1");
    }

    /** A flag that a step sets is looked at by the next step, not by its own. */
    private static void flagThatComesInTheStep() {
        Setup printer = Setup.at(0200, 06001, Checks.NOTHING, 06046).word(1, 07001).ran(2);
        CHECKS.stepDue("06046 with ION", printer, "PFLAG=1 prints=1 printed_0=0 PC=0203");
        CHECKS.stepDue("the step behind 06046", printer.ran(1), "@0=0203 PC=2 AC=1 ION=0 interrupts=1");
        Setup reader = Setup.at(0200, 06001, Checks.NOTHING, 06032).word(1, 07001).fed(5).ran(2);
        CHECKS.stepDue("06032 with ION", reader, "RFLAG=1 BUFFER=5 waiting=0 tape_0=-2 PC=0203");
        CHECKS.stepDue("the step behind 06032", reader.ran(1), "@0=0203 PC=2 AC=1 ION=0 interrupts=1");
        Setup empty = Setup.at(0200, 06001, Checks.NOTHING, 06032).ran(3);
        CHECKS.stepDue("the step behind 06032 without a byte", empty, "PC=0204");
    }

    /** A halt holds the interrupt back; after go the first step makes it. */
    private static void haltKeepsTheInterruptDue() {
        Setup setup = Setup.at(0200, 06046, 06001, Checks.HALT).word(1, 07001).ran(5);
        CHECKS.nothingChanges("run when halted", setup, m -> m.run(2000));
        CHECKS.stepDue("the step after go", setup.then(TapeMachine::go), "@0=0203 PC=2 AC=1 ION=0 interrupts=1");
    }
}
