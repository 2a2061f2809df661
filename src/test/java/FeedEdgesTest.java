/** The boundary cases of promises 2 and 3: feed and waiting. */
public final class FeedEdgesTest {
    private static final Checks CHECKS = new Checks();
    private static final int READ = 06032;

    public static void main(String[] args) {
        leastByteIsTaken();
        greatestByteIsTaken();
        belowTheLeastIsRefused();
        aboveTheGreatestIsRefused();
        lastOfFourHundredIsTaken();
        oneMoreIsRefusedWithNoneRead();
        oneMoreIsRefusedWithSomeRead();
        oneMoreIsRefusedWithAllRead();
        wrongByteOnAFullTapeIsRefused();
        refusedBytesLeaveTheRoom();
        byteGoesBehindTheOthers();
        feedIsTakenWhenHalted();
        waitingOnAnEmptyTape();
        waitingFromOneToFourHundred();
        waitingDownToNothing();
        waitingChangesNothing();
        CHECKS.end();
    }

    private static void takenDue(String what, Setup setup, int b, String changes) {
        CHECKS.due(what, setup.make().feed(b), true);
        CHECKS.changesDue(what, setup, m -> m.feed(b), changes);
    }

    private static void refusedDue(String what, Setup setup, int b) {
        CHECKS.due(what, setup.make().feed(b), false);
        CHECKS.nothingChanges(what, setup, m -> m.feed(b));
    }

    /** "false .. if b is not 0 .. 255": 0 is taken. */
    private static void leastByteIsTaken() {
        takenDue("feed 0, new", Setup.fresh(), 0, "waiting=1 tape_0=0 room=399");
        takenDue("feed 0, busy", Setup.busy(), 0, "waiting=3 tape_2=0 room=396");
    }

    /** "false .. if b is not 0 .. 255": 255 is taken. */
    private static void greatestByteIsTaken() {
        takenDue("feed 255, new", Setup.fresh(), 255, "waiting=1 tape_0=255 room=399");
        takenDue("feed 255, busy", Setup.busy(), 255, "waiting=3 tape_2=255 room=396");
    }

    /** "false (and nothing changes) if b is not 0 .. 255": -1 and below. */
    private static void belowTheLeastIsRefused() {
        int[] wrong = {-1, -2, -128, -255, -256, -257, Integer.MIN_VALUE, Integer.MIN_VALUE + 1};
        for (int b : wrong) {
            refusedDue("feed " + b + ", new", Setup.fresh(), b);
            refusedDue("feed " + b + ", busy", Setup.busy(), b);
        }
    }

    /** "false (and nothing changes) if b is not 0 .. 255": 256 and above. */
    private static void aboveTheGreatestIsRefused() {
        int[] wrong = {256, 257, 511, 512, 4095, 65536, Integer.MAX_VALUE};
        for (int b : wrong) {
            refusedDue("feed " + b + ", new", Setup.fresh(), b);
            refusedDue("feed " + b + ", busy", Setup.busy(), b);
        }
    }

    /** "400 bytes have been fed since the beginning": the 400th is taken. */
    private static void lastOfFourHundredIsTaken() {
        takenDue("the 400th byte", Setup.fresh().fedBytes(399), 9, "waiting=400 tape_399=9 room=0");
        Setup read = Setup.at(0, READ, 05000).fedBytes(399).ran(2 * 399);
        takenDue("the 400th byte, all others read", read, 9, "waiting=1 tape_0=9 room=0");
    }

    /** "400 bytes have been fed since the beginning, read or not": none read. */
    private static void oneMoreIsRefusedWithNoneRead() {
        refusedDue("byte 401, none read", Setup.full(0), 9);
        refusedDue("byte 0 as byte 401, none read", Setup.full(0), 0);
        refusedDue("byte 255 as byte 401, none read", Setup.full(0), 255);
    }

    /** "400 bytes have been fed since the beginning, read or not": the first read, and all but the last. */
    private static void oneMoreIsRefusedWithSomeRead() {
        refusedDue("byte 401, one read", Setup.full(1), 9);
        refusedDue("byte 401, half read", Setup.full(200), 9);
        refusedDue("byte 401, 399 read", Setup.full(399), 9);
    }

    /** "400 bytes have been fed since the beginning, read or not": the tape is empty and takes none. */
    private static void oneMoreIsRefusedWithAllRead() {
        refusedDue("byte 401, all read", Setup.full(400), 9);
        refusedDue("byte 401, all read and the reader at the end", Setup.full(402), 9);
    }

    private static void wrongByteOnAFullTapeIsRefused() {
        refusedDue("-1 on a full tape", Setup.full(0), -1);
        refusedDue("256 on a full tape", Setup.full(0), 256);
        refusedDue("256 on a full tape, all read", Setup.full(400), 256);
    }

    /** Bytes that were refused are not among the 400 that were fed. */
    private static void refusedBytesLeaveTheRoom() {
        TapeMachine machine = Setup.fresh().fedBytes(399).make();
        for (int i = 0; i < 50; i++) {
            CHECKS.due("feed 256 before the 400th", machine.feed(256), false);
            CHECKS.due("feed -1 before the 400th", machine.feed(-1), false);
        }
        CHECKS.due("the 400th behind refused ones", machine.feed(1), true);
        CHECKS.due("one more", machine.feed(1), false);
        CHECKS.due("waiting", machine.waiting(), 400);
    }

    /** "Puts byte b behind the tape". */
    private static void byteGoesBehindTheOthers() {
        takenDue("a byte behind 200", Setup.fresh().fedBytes(200), 0252, "waiting=201 tape_200=0252 room=199");
        Setup read = Setup.at(0, READ, 05000).fedBytes(200).ran(2 * 150);
        takenDue("a byte behind 50 of 200", read, 0252, "waiting=51 tape_50=0252 room=199");
        Setup empty = Setup.at(0, READ, 05000).fed(1).ran(4);
        takenDue("a byte on a tape that ran empty", empty, 0252, "waiting=1 tape_0=0252 room=398");
    }

    private static void feedIsTakenWhenHalted() {
        takenDue("feed when halted", Setup.halted(), 5, "waiting=3 tape_2=5 room=396");
    }

    /** "How many bytes are on the tape": none, on a new tape, after refused bytes, and after the last is read. */
    private static void waitingOnAnEmptyTape() {
        CHECKS.due("waiting, new", Setup.fresh().make().waiting(), 0);
        CHECKS.due("waiting, refused bytes", Setup.fresh().fed(-1, 256).make().waiting(), 0);
        CHECKS.due("waiting, the only byte read", Setup.at(0, READ).fed(1).ran(1).make().waiting(), 0);
        CHECKS.due("waiting, advanced with no byte", Setup.at(0, READ, READ).fed(1).ran(2).make().waiting(), 0);
    }

    private static void waitingFromOneToFourHundred() {
        int[] numbers = {1, 2, 255, 256, 399, 400};
        for (int n : numbers) {
            CHECKS.due("waiting with " + n, Setup.fresh().fedBytes(n).make().waiting(), n);
        }
        CHECKS.due("waiting with 400 and one refused", Setup.full(0).fed(1).make().waiting(), 400);
    }

    private static void waitingDownToNothing() {
        int[] read = {0, 1, 2, 399, 400, 401, 900};
        for (int n : read) {
            CHECKS.due("waiting of 400 after " + n + " advances", Setup.full(n).make().waiting(), Math.max(0, 400 - n));
        }
    }

    private static void waitingChangesNothing() {
        CHECKS.nothingChanges("waiting, new", Setup.fresh(), TapeMachine::waiting);
        CHECKS.nothingChanges("waiting, busy", Setup.busy(), TapeMachine::waiting);
        CHECKS.nothingChanges("waiting, halted", Setup.halted(), TapeMachine::waiting);
        CHECKS.nothingChanges("waiting, full", Setup.full(0), TapeMachine::waiting);
        CHECKS.nothingChanges("waiting, full and read", Setup.full(400), TapeMachine::waiting);
    }
}
