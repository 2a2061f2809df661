import java.util.function.IntFunction;
import java.util.function.ToIntBiFunction;

/** The boundary cases of promises 10 and 11: printed and trace. */
public final class LatestEdgesTest {
    private static final Checks CHECKS = new Checks();
    private static final int[] NUMBERS = {0, 1, 2, 62, 63, 64, 65, 66, 127, 128, 129, 191, 192, 193, 256, 600};
    private static final int[] BELOW = {-2, -3, -63, -64, -65, Integer.MIN_VALUE};
    private static final int[] ABOVE = {64, 65, 127, 128, 256, 599, 600, Integer.MAX_VALUE};

    public static void main(String[] args) {
        printedTellsEachOfTheLatest();
        printedNotSoMany();
        printedAboveTheLast();
        printedBelowMinusOne();
        printedMinusOneCountsAll();
        printedTellsTheLowestEightBits();
        printedChangesNothing();
        traceTellsEachOfTheLatest();
        traceNotSoMany();
        traceAboveTheLast();
        traceBelowNought();
        traceGoesOverTheEnd();
        traceChangesNothing();
        CHECKS.end();
    }

    /** So many bytes printed, 1, 2, 3 and so on, by three steps each. */
    private static Setup prints(int number) {
        Setup setup = Setup.at(0, 07001, 06046, 05000);
        for (int left = number; left > 0; left -= 500) {
            setup.ran(3 * Math.min(left, 500));
        }
        return setup;
    }

    /** So many steps made, at 03000, 03001 and so on. */
    private static Setup steps(int number) {
        return Setup.fresh().pc(03000).ran(number);
    }

    private static void latestDue(String what, IntFunction<Setup> setups, ToIntBiFunction<TapeMachine, Integer> call,
            int first, int mask) {
        for (int n : NUMBERS) {
            TapeMachine machine = setups.apply(n).make();
            for (int k = 0; k < Math.min(n, 64); k++) {
                CHECKS.due(n + " " + what + ", number " + k, call.applyAsInt(machine, k), (first + n - 1 - k) & mask);
            }
        }
    }

    private static void notSoManyDue(String what, IntFunction<Setup> setups, ToIntBiFunction<TapeMachine, Integer> call) {
        for (int n = 0; n <= 63; n++) {
            TapeMachine machine = setups.apply(n).make();
            for (int k = n; k <= 64; k++) {
                CHECKS.due(n + " " + what + ", number " + k, call.applyAsInt(machine, k), -1);
            }
        }
    }

    private static void refusedDue(String what, IntFunction<Setup> setups, ToIntBiFunction<TapeMachine, Integer> call,
            int... numbers) {
        for (int n : NUMBERS) {
            TapeMachine machine = setups.apply(n).make();
            for (int k : numbers) {
                CHECKS.due(n + " " + what + ", number " + k, call.applyAsInt(machine, k), -1);
            }
        }
    }

    /** "The byte printed k-th counted from the latest (0)": to the oldest there is, and to 63. */
    private static void printedTellsEachOfTheLatest() {
        latestDue("printed", LatestEdgesTest::prints, TapeMachine::printed, 1, 0377);
    }

    /** "-1 if there were not so many". */
    private static void printedNotSoMany() {
        notSoManyDue("printed", LatestEdgesTest::prints, TapeMachine::printed);
    }

    /** "-1 if .. k is not 0 .. 63": 64 and above, also if there were so many. */
    private static void printedAboveTheLast() {
        refusedDue("printed", LatestEdgesTest::prints, TapeMachine::printed, ABOVE);
    }

    /** "-1 if .. k is not 0 .. 63": -2 and below, as -1 has a meaning of its own. */
    private static void printedBelowMinusOne() {
        refusedDue("printed", LatestEdgesTest::prints, TapeMachine::printed, BELOW);
    }

    /** "For k = -1: how many were printed since the beginning": none, and more than are kept. */
    private static void printedMinusOneCountsAll() {
        for (int n : NUMBERS) {
            CHECKS.due(n + " printed, how many", prints(n).make().printed(-1), n);
        }
        CHECKS.due("70000 printed, how many", prints(70000).make().printed(-1), 70000);
        CHECKS.due("halted, how many", Setup.halted().make().printed(-1), 2);
    }

    private static void printedTellsTheLowestEightBits() {
        int[][] cases = {{0, 0}, {0377, 0377}, {0400, 0}, {0401, 1}, {07400, 0}, {07777, 0377}, {04200, 0200}};
        for (int[] c : cases) {
            TapeMachine machine = Setup.at(0, 06044).ac(c[0]).ran(1).make();
            CHECKS.due("printed of AC " + Checks.octal(c[0]), machine.printed(0), c[1]);
            CHECKS.due("printed(1) of AC " + Checks.octal(c[0]), machine.printed(1), -1);
        }
    }

    private static void printedChangesNothing() {
        int[] numbers = {-2, -1, 0, 1, 2, 63, 64};
        for (int k : numbers) {
            CHECKS.nothingChanges("printed " + k, Setup.busy(), m -> m.printed(k));
            CHECKS.nothingChanges("printed " + k + ", many", prints(100), m -> m.printed(k));
        }
    }

    /** "HERE of the step made k-th counted from the latest (0)": to the first there was, and to 63. */
    private static void traceTellsEachOfTheLatest() {
        latestDue("steps", LatestEdgesTest::steps, TapeMachine::trace, 03000, 07777);
    }

    /** "-1 if there were not so many". */
    private static void traceNotSoMany() {
        notSoManyDue("steps", LatestEdgesTest::steps, TapeMachine::trace);
    }

    /** "-1 if .. k is not 0 .. 63": 64 and above, also if there were so many. */
    private static void traceAboveTheLast() {
        refusedDue("steps", LatestEdgesTest::steps, TapeMachine::trace, ABOVE);
    }

    /** "-1 if .. k is not 0 .. 63": -1 too, other than with printed. */
    private static void traceBelowNought() {
        refusedDue("steps", LatestEdgesTest::steps, TapeMachine::trace, BELOW);
        refusedDue("steps", LatestEdgesTest::steps, TapeMachine::trace, -1);
    }

    /** HERE is the address of the word, not PC after it: 07777 and 0 are told as they are. */
    private static void traceGoesOverTheEnd() {
        TapeMachine machine = Setup.fresh().pc(07776).ran(4).make();
        int[] want = {1, 0, 07777, 07776, -1};
        for (int k = 0; k < want.length; k++) {
            CHECKS.due("trace over the end, " + k, machine.trace(k), want[k]);
        }
    }

    private static void traceChangesNothing() {
        int[] numbers = {-1, 0, 1, 9, 10, 63, 64};
        for (int k : numbers) {
            CHECKS.nothingChanges("trace " + k, Setup.busy(), m -> m.trace(k));
            CHECKS.nothingChanges("trace " + k + ", many", steps(100), m -> m.trace(k));
        }
    }
}
