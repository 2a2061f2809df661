/** The boundary cases of promises 12 and 13, interrupts and skips, and of the 512 calls of an object. */
public final class CountEdgesTest {
    private static final Checks CHECKS = new Checks();

    public static void main(String[] args) {
        noInterruptYet();
        interruptsInASingleRun();
        interruptsInEveryStep();
        interruptsChangesNothing();
        noSkipYet();
        stepsThatDoNotSkip();
        skipsInEveryStep();
        skipOverTheEndCountsOnce();
        stepsThatSkipAndMore();
        skipsChangesNothing();
        lastCallOfAnObject();
        CHECKS.end();
    }

    /** "How many interrupts there were since the beginning": none, also if one is due and not done. */
    private static void noInterruptYet() {
        CHECKS.due("interrupts, new", Setup.fresh().make().interrupts(), 0);
        Setup due = Setup.at(0200, 06046, 06001, Checks.NOTHING).ran(3);
        CHECKS.due("interrupts, one due", due.make().interrupts(), 0);
        CHECKS.due("interrupts, one due, run 0", due.ran(0).make().interrupts(), 0);
        CHECKS.due("interrupts, one due, run 2001", due.ran(2001).make().interrupts(), 0);
        CHECKS.due("interrupts, one due, run 1", due.ran(1).make().interrupts(), 1);
    }

    /** Print, flag off, on again, back, jump: 5 steps a round with one interrupt. */
    private static void interruptsInASingleRun() {
        Setup setup = Setup.at(0200, 06001, 06046, 05201).word(1, 06042).word(2, 06001).word(3, 05400);
        TapeMachine machine = setup.ran(2000).make();
        CHECKS.due("interrupts in 2000 steps", machine.interrupts(), 400);
        machine.run(2000);
        CHECKS.due("interrupts in 4000 steps", machine.interrupts(), 800);
    }

    /** With ION and DELAY both set and 06001 at 1, no step goes by without an interrupt. */
    private static void interruptsInEveryStep() {
        TapeMachine machine = Setup.busy().word(1, 06001).make();
        for (int i = 2; i < 12; i++) {
            machine.run(1);
            CHECKS.due("interrupts in every step", machine.interrupts(), i);
        }
        machine.run(2000);
        CHECKS.due("interrupts in 2000 steps more", machine.interrupts(), 2011);
    }

    private static void interruptsChangesNothing() {
        CHECKS.nothingChanges("interrupts, new", Setup.fresh(), TapeMachine::interrupts);
        CHECKS.nothingChanges("interrupts, busy", Setup.busy(), TapeMachine::interrupts);
        CHECKS.nothingChanges("interrupts, halted", Setup.halted(), TapeMachine::interrupts);
    }

    /** "How many steps since the beginning skipped": none. */
    private static void noSkipYet() {
        CHECKS.due("skips, new", Setup.fresh().make().skips(), 0);
        CHECKS.due("skips, 2000 steps", Setup.fresh().ran(2000).make().skips(), 0);
        CHECKS.due("skips, a skip ahead", Setup.at(0, 07410).ran(0).make().skips(), 0);
        CHECKS.due("skips, a run refused", Setup.at(0, 07410).ran(2001).make().skips(), 0);
    }

    /** Not every way to the word behind the next is a skip. */
    private static void stepsThatDoNotSkip() {
        CHECKS.stepDue("JMP over a word", Setup.at(0200, 05202), "PC=0202");
        CHECKS.stepDue("JMS over a word", Setup.at(0200, 04201), "PC=0202 @0201=0201");
        CHECKS.stepDue("ISZ to 1", Setup.at(0200, 02100), "PC=0201 @0100=1");
        CHECKS.stepDue("a pointer that rises to 0", Setup.at(0200, 01410).word(010, 07777).word(0, 5),
                "PC=0201 @010=0 AC=5");
        CHECKS.stepDue("AC + 1 to 0", Setup.at(0200, 07001).ac(07777), "PC=0201 AC=0 L=1");
    }

    /** Steps that all skip, and 2000 steps of which every other does. */
    private static void skipsInEveryStep() {
        TapeMachine all = Setup.at(07777, 07410).word(1, 07410).word(3, 07410).word(5, 07410).ran(4).make();
        CHECKS.due("skips in four steps", all.skips(), 4);
        CHECKS.due("PC after four skips", all.register(Checks.PC), 7);
        TapeMachine other = Setup.at(0, 07410, 0, 05000).ran(2000).make();
        CHECKS.due("skips in every other step", other.skips(), 1000);
    }

    /** A step is counted once, also if PC goes round. */
    private static void skipOverTheEndCountsOnce() {
        CHECKS.stepDue("skip at 07776", Setup.at(07776, 07410), "PC=0 skips=1");
        CHECKS.stepDue("skip at 07777", Setup.at(07777, 07410), "PC=1 skips=1");
    }

    /** A step that is interrupted, or halts, and skips is a step that skips. */
    private static void stepsThatSkipAndMore() {
        CHECKS.stepDue("skip with a halt", Setup.at(0200, 07412), "PC=0202 HALTED=1 skips=1");
        CHECKS.stepDue("skip on all conditions", Setup.at(0200, 07560).link(1), "PC=0202 skips=1");
        Setup due = Setup.at(0200, 06046, 06001, Checks.NOTHING).word(1, 06041).ran(3);
        CHECKS.stepDue("skip in an interrupt", due, "PC=3 @0=0203 ION=0 interrupts=1 skips=1");
    }

    private static void skipsChangesNothing() {
        CHECKS.nothingChanges("skips, new", Setup.fresh(), TapeMachine::skips);
        CHECKS.nothingChanges("skips, busy", Setup.busy(), TapeMachine::skips);
        CHECKS.nothingChanges("skips, halted", Setup.halted(), TapeMachine::skips);
    }

    /** "An object is used for at most 512 calls": the 512th is answered as the first, and later ones end. */
    private static void lastCallOfAnObject() {
        for (int last = 0; last < 4; last++) {
            // Print, skip and jump back: 3 steps a round. The setup makes 5 calls.
            TapeMachine machine = Setup.at(0, 06046, 07410, 0, 05000).make();
            for (int call = 6; call <= 511; call++) {
                CHECKS.due("run as call " + call, machine.run(2000), 2000);
            }
            lastCallDue(machine, last);
            CHECKS.due("a later call", machine.run(2000) >= 0, true);
        }
    }

    private static void lastCallDue(TapeMachine machine, int last) {
        int steps = 506 * 2000;
        if (last == 0) {
            CHECKS.due("printed(-1) as call 512", machine.printed(-1), (steps + 2) / 3);
        } else if (last == 1) {
            CHECKS.due("skips as call 512", machine.skips(), (steps + 1) / 3);
        } else if (last == 2) {
            CHECKS.due("trace as call 512", machine.trace(63), (steps - 64) % 3 == 2 ? 3 : (steps - 64) % 3);
        } else {
            CHECKS.due("run as call 512", machine.run(2000), 2000);
        }
    }
}
