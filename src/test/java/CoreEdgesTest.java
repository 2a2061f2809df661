/** The boundary cases of promises 4 and 5: poke and peek. */
public final class CoreEdgesTest {
    private static final Checks CHECKS = new Checks();
    private static final int[] BELOW = {-1, -2, -4095, -4096, -4097, Integer.MIN_VALUE};
    private static final int[] ABOVE = {4096, 4097, 8191, 8192, 65536, Integer.MAX_VALUE};

    public static void main(String[] args) {
        pokeAtTheFirstAddress();
        pokeAtTheLastAddress();
        pokeBelowTheFirstIsRefused();
        pokeAboveTheLastIsRefused();
        pokeKeepsTheLowestTwelveBits();
        pokeAnswersTheOldWord();
        pokeIsTakenWhenHalted();
        peekAtBothEnds();
        peekBelowTheFirst();
        peekAboveTheLast();
        peekChangesNothing();
        CHECKS.end();
    }

    private static void pokeDue(String what, Setup setup, int a, int w, int old, int word) {
        CHECKS.due(what, setup.make().poke(a, w), old);
        CHECKS.changesDue(what, setup, m -> m.poke(a, w), Whole.word(a) + "=" + word);
    }

    private static void refusedDue(int a) {
        Setup[] setups = {Setup.fresh().word(0, 1).word(07777, 2), Setup.busy(), Setup.halted()};
        for (Setup setup : setups) {
            CHECKS.due("poke at " + a, setup.make().poke(a, 05252), -1);
            CHECKS.nothingChanges("poke at " + a, setup, m -> m.poke(a, 05252));
        }
    }

    /** "-1 .. if a is not 0 .. 4095": 0 is taken. */
    private static void pokeAtTheFirstAddress() {
        pokeDue("poke at 0", Setup.fresh(), 0, 05252, 0, 05252);
        pokeDue("poke at 0, busy", Setup.busy(), 0, 05252, 0203, 05252);
        pokeDue("poke at 1, busy", Setup.busy(), 1, 0, 06042, 0);
    }

    /** "-1 .. if a is not 0 .. 4095": 4095 is taken. */
    private static void pokeAtTheLastAddress() {
        pokeDue("poke at 4095", Setup.fresh(), 4095, 05252, 0, 05252);
        pokeDue("poke at 4095, busy", Setup.busy(), 4095, 05252, 02525, 05252);
        pokeDue("poke at 4094", Setup.fresh(), 4094, 05252, 0, 05252);
    }

    /** "-1 (and nothing changes) if a is not 0 .. 4095": -1 and below. */
    private static void pokeBelowTheFirstIsRefused() {
        for (int a : BELOW) {
            refusedDue(a);
        }
    }

    /** "-1 (and nothing changes) if a is not 0 .. 4095": 4096 and above. */
    private static void pokeAboveTheLastIsRefused() {
        for (int a : ABOVE) {
            refusedDue(a);
        }
    }

    /** "The lowest 12 bits of w .. as in v & 4095, also for a negative v". */
    private static void pokeKeepsTheLowestTwelveBits() {
        int[][] cases = {
            {0, 0}, {1, 1}, {4095, 4095}, {4096, 0}, {4097, 1}, {8191, 4095}, {8192, 0}, {65535, 4095},
            {-1, 4095}, {-2, 4094}, {-4095, 1}, {-4096, 0}, {-4097, 4095},
            {Integer.MAX_VALUE, 4095}, {Integer.MIN_VALUE, 0}, {Integer.MIN_VALUE + 1, 1},
        };
        for (int[] c : cases) {
            pokeDue("poke " + c[0], Setup.fresh().word(0300, 01234), 0300, c[0], 01234, c[1]);
        }
    }

    /** "The word at a becomes ..: the old one", also if both are the same or the greatest. */
    private static void pokeAnswersTheOldWord() {
        pokeDue("poke of the same word", Setup.fresh().word(5, 07777), 5, 07777, 07777, 07777);
        pokeDue("poke of 0 on 07777", Setup.fresh().word(5, 07777), 5, 0, 07777, 0);
        pokeDue("poke of 07777 on 0", Setup.fresh(), 5, 07777, 0, 07777);
        pokeDue("poke on a word from a negative one", Setup.fresh().word(5, -1), 5, 1, 07777, 1);
        TapeMachine machine = Setup.fresh().word(4095, 0123).make();
        CHECKS.due("refused poke", machine.poke(4096, 7), -1);
        CHECKS.due("the old word after a refused poke", machine.poke(4095, 1), 0123);
    }

    private static void pokeIsTakenWhenHalted() {
        pokeDue("poke when halted", Setup.halted(), 0500, 07777, 0, 07777);
    }

    /** "-1 if a is not 0 .. 4095": the words at 0 and 4095 are told. */
    private static void peekAtBothEnds() {
        TapeMachine machine = Setup.fresh().word(0, 01111).word(1, 02222).word(4094, 03333).word(4095, 07777).make();
        CHECKS.due("peek 0", machine.peek(0), 01111);
        CHECKS.due("peek 1", machine.peek(1), 02222);
        CHECKS.due("peek 4094", machine.peek(4094), 03333);
        CHECKS.due("peek 4095", machine.peek(4095), 07777);
    }

    /** "-1 if a is not 0 .. 4095": -1 and below. */
    private static void peekBelowTheFirst() {
        for (int a : BELOW) {
            CHECKS.due("peek " + a, Setup.busy().make().peek(a), -1);
        }
    }

    /** "-1 if a is not 0 .. 4095": 4096 and above. */
    private static void peekAboveTheLast() {
        for (int a : ABOVE) {
            CHECKS.due("peek " + a, Setup.busy().make().peek(a), -1);
        }
    }

    private static void peekChangesNothing() {
        int[] addresses = {-1, 0, 010, 017, 0200, 4095, 4096};
        for (int a : addresses) {
            CHECKS.nothingChanges("peek " + a, Setup.busy(), m -> m.peek(a));
            CHECKS.nothingChanges("peek " + a + ", halted", Setup.halted(), m -> m.peek(a));
        }
    }
}
