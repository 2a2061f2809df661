/** The boundary cases of promises 8 and 9: go and run. */
public final class RunEdgesTest {
    private static final Checks CHECKS = new Checks();

    public static void main(String[] args) {
        goAfterAHalt();
        goWithoutAHalt();
        runOfNone();
        runOfOne();
        runOfTheMost();
        belowNoneMakesNone();
        aboveTheMostMakesNone();
        haltedBeforeMakesNone();
        haltedByTheFirstStep();
        haltedByTheLastStep();
        haltedOneStepTooLate();
        haltedByTheLastOfTheMost();
        runGoesOnAfterGo();
        haltEndsTheRunAtOnce();
        CHECKS.end();
    }

    /** "HALTED is no longer set: whether it was". */
    private static void goAfterAHalt() {
        CHECKS.due("go after a halt", Setup.halted().make().go(), true);
        CHECKS.changesDue("go after a halt", Setup.halted(), TapeMachine::go, "HALTED=0");
        CHECKS.due("go after a halt at 0", Setup.at(0, Checks.HALT).ran(1).make().go(), true);
    }

    /** "whether it was": it was not, before a halt and after a go. */
    private static void goWithoutAHalt() {
        Setup[] setups = {Setup.fresh(), Setup.busy(), Setup.halted().then(TapeMachine::go)};
        for (Setup setup : setups) {
            CHECKS.due("go without a halt", setup.make().go(), false);
            CHECKS.nothingChanges("go without a halt", setup, TapeMachine::go);
        }
    }

    private static void noStepsDue(String what, Setup setup, int n) {
        CHECKS.due(what, setup.make().run(n), 0);
        CHECKS.nothingChanges(what, setup, m -> m.run(n));
    }

    /** "n from 0 to 2000": 0 is taken, and not even an interrupt that is due or DELAY is done. */
    private static void runOfNone() {
        noStepsDue("run 0, new", Setup.fresh(), 0);
        noStepsDue("run 0, busy", Setup.busy(), 0);
        noStepsDue("run 0, halted", Setup.halted(), 0);
    }

    private static void runOfOne() {
        CHECKS.due("run 1", Setup.fresh().make().run(1), 1);
        CHECKS.changesDue("run 1", Setup.fresh(), m -> m.run(1), "PC=1 trace_0=0");
        CHECKS.due("run 1, an interrupt due", Setup.busy().make().run(1), 1);
    }

    /** "n from 0 to 2000": 2000 is taken. */
    private static void runOfTheMost() {
        int[] numbers = {2, 63, 64, 255, 256, 1000, 1999, 2000};
        for (int n : numbers) {
            TapeMachine machine = Setup.at(0, 07001, 05000).make();
            CHECKS.due("run " + n, machine.run(n), n);
            CHECKS.registersDue("run " + n, machine, (n + 1) / 2, 0, n % 2);
        }
    }

    /** "n from 0 to 2000, else none": -1 and below. */
    private static void belowNoneMakesNone() {
        int[] wrong = {-1, -2, -2000, -2001, Integer.MIN_VALUE};
        for (int n : wrong) {
            noStepsDue("run " + n + ", new", Setup.fresh(), n);
            noStepsDue("run " + n + ", busy", Setup.busy(), n);
            noStepsDue("run " + n + ", halted", Setup.halted(), n);
        }
    }

    /** "n from 0 to 2000, else none": 2001 and above. */
    private static void aboveTheMostMakesNone() {
        int[] wrong = {2001, 2002, 4000, 4096, 65536, Integer.MAX_VALUE};
        for (int n : wrong) {
            noStepsDue("run " + n + ", new", Setup.fresh(), n);
            noStepsDue("run " + n + ", busy", Setup.busy(), n);
            noStepsDue("run " + n + ", halted", Setup.halted(), n);
            noStepsDue("run " + n + ", a halt ahead", Setup.at(0, Checks.HALT), n);
        }
    }

    /** "none if it is set before": nor is the interrupt done that is due. */
    private static void haltedBeforeMakesNone() {
        int[] numbers = {1, 2, 1999, 2000};
        for (int n : numbers) {
            noStepsDue("halted, run " + n, Setup.halted(), n);
        }
        noStepsDue("halted, set and poked", Setup.halted().pc(0300).word(0300, 07001), 5);
    }

    /** "How many were made, the one that set it included": the first one. */
    private static void haltedByTheFirstStep() {
        int[] numbers = {1, 2, 2000};
        for (int n : numbers) {
            CHECKS.due("a halt first, run " + n, Setup.at(0200, Checks.HALT).make().run(n), 1);
            CHECKS.changesDue("a halt first, run " + n, Setup.at(0200, Checks.HALT), m -> m.run(n),
                    "PC=0201 HALTED=1 trace_0=0200");
        }
    }

    /** "until n are made .. or HALTED is set": both in the same step. */
    private static void haltedByTheLastStep() {
        Setup setup = Setup.at(0200, 07001, 07001, Checks.HALT, 07001);
        CHECKS.due("a halt last", setup.make().run(3), 3);
        CHECKS.changesDue("a halt last", setup, m -> m.run(3),
                "AC=2 PC=0203 HALTED=1 trace_0=0202 trace_1=0201 trace_2=0200");
    }

    private static void haltedOneStepTooLate() {
        Setup setup = Setup.at(0200, 07001, 07001, Checks.HALT, 07001);
        CHECKS.due("a halt ahead", setup.make().run(2), 2);
        CHECKS.changesDue("a halt ahead", setup, m -> m.run(2), "AC=2 PC=0202 trace_0=0201 trace_1=0200");
        CHECKS.due("a halt behind the first step more", setup.make().run(4), 3);
    }

    /** The words of 0 in the core change nothing but PC: the halt is step 2000, and step 2001. */
    private static void haltedByTheLastOfTheMost() {
        TapeMachine last = Setup.fresh().word(1999, Checks.HALT).make();
        CHECKS.due("the halt is step 2000", last.run(2000), 2000);
        CHECKS.due("HALTED by step 2000", last.register(Checks.HALTED), 1);
        TapeMachine beyond = Setup.fresh().word(2000, Checks.HALT).make();
        CHECKS.due("the halt is step 2001", beyond.run(2000), 2000);
        CHECKS.due("not HALTED by step 2000", beyond.register(Checks.HALTED), 0);
        CHECKS.due("run to the halt", beyond.run(2000), 1);
        CHECKS.due("HALTED by step 2001", beyond.register(Checks.HALTED), 1);
        TapeMachine before = Setup.fresh().word(1998, Checks.HALT).make();
        CHECKS.due("the halt is step 1999", before.run(2000), 1999);
    }

    private static void runGoesOnAfterGo() {
        Setup setup = Setup.at(0200, Checks.HALT, Checks.HALT).ran(1).then(TapeMachine::go);
        CHECKS.due("run to the next halt", setup.make().run(5), 1);
        CHECKS.changesDue("run to the next halt", setup, m -> m.run(5),
                "PC=0202 HALTED=1 trace_0=0201 trace_1=0200");
        noStepsDue("run at the next halt", setup.ran(5), 5);
    }

    /** The step that halts is done whole: it skips, and AC becomes 0 and SR. */
    private static void haltEndsTheRunAtOnce() {
        Setup setup = Setup.at(07776, 07656).ac(3).register(Checks.SR, 0525);
        CHECKS.due("a halt with all else", setup.make().run(2000), 1);
        CHECKS.changesDue("a halt with all else", setup, m -> m.run(2000),
                "AC=0525 PC=0 HALTED=1 skips=1 trace_0=07776");
    }
}
