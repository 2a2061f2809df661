/** Promises 2 and 3: feed and waiting. */
public final class TapeTest {
    private static final Checks CHECKS = new Checks();
    private static final int READ = 06036;

    public static void main(String[] args) {
        bytesAloneAreTaken();
        bytesComeInTheirOrder();
        fourHundredAreTaken();
        readBytesCountToTheLimit();
        refusedBytesDoNotCount();
        CHECKS.end();
    }

    private static void bytesAloneAreTaken() {
        TapeMachine machine = new TapeMachine();
        int[] refused = {-1, 256, 257, 4096, -255, -256, Integer.MIN_VALUE, Integer.MAX_VALUE};
        for (int b : refused) {
            CHECKS.due("feed " + b, machine.feed(b), false);
            CHECKS.due("waiting after a refused byte", machine.waiting(), 0);
        }
        CHECKS.due("feed 0", machine.feed(0), true);
        CHECKS.due("waiting", machine.waiting(), 1);
        CHECKS.due("feed 255", machine.feed(255), true);
        CHECKS.due("waiting", machine.waiting(), 2);
        CHECKS.due("waiting again", machine.waiting(), 2);
    }

    private static void bytesComeInTheirOrder() {
        TapeMachine machine = Checks.loaded(0, READ, READ, READ, READ);
        int[] bytes = {255, 0, 128};
        for (int b : bytes) {
            machine.feed(b);
        }
        for (int i = 0; i < bytes.length; i++) {
            machine.run(1);
            CHECKS.due("byte " + i, machine.register(Checks.BUFFER), bytes[i]);
            CHECKS.due("waiting after byte " + i, machine.waiting(), bytes.length - 1 - i);
        }
        machine.run(1);
        CHECKS.due("waiting on an empty tape", machine.waiting(), 0);
    }

    private static void fourHundredAreTaken() {
        TapeMachine machine = Checks.loaded(0, READ, 05000);
        for (int i = 0; i < 400; i++) {
            CHECKS.due("feed number " + i, machine.feed(i % 251), true);
        }
        CHECKS.due("feed number 400", machine.feed(9), false);
        CHECKS.due("waiting at the limit", machine.waiting(), 400);
        machine.run(2 * 399);
        CHECKS.due("byte 398", machine.register(Checks.BUFFER), 398 % 251);
        CHECKS.due("waiting for the last", machine.waiting(), 1);
        machine.run(2);
        CHECKS.due("byte 399", machine.register(Checks.BUFFER), 399 % 251);
        machine.run(2);
        CHECKS.due("BUFFER behind the last", machine.register(Checks.BUFFER), 399 % 251);
        CHECKS.due("waiting behind the last", machine.waiting(), 0);
    }

    private static void readBytesCountToTheLimit() {
        TapeMachine machine = Checks.loaded(0, READ, 05000);
        for (int i = 0; i < 200; i++) {
            machine.feed(1);
        }
        machine.run(2 * 200);
        CHECKS.due("waiting after 200 were read", machine.waiting(), 0);
        for (int i = 0; i < 200; i++) {
            CHECKS.due("feed number " + (200 + i), machine.feed(2), true);
        }
        machine.run(2 * 100);
        CHECKS.due("waiting", machine.waiting(), 100);
        CHECKS.due("feed number 400 with 300 read", machine.feed(3), false);
        CHECKS.due("waiting, nothing changed", machine.waiting(), 100);
    }

    private static void refusedBytesDoNotCount() {
        TapeMachine machine = new TapeMachine();
        for (int i = 0; i < 50; i++) {
            machine.feed(256);
        }
        for (int i = 0; i < 400; i++) {
            CHECKS.due("feed number " + i + " after refused ones", machine.feed(1), true);
        }
        CHECKS.due("feed number 400 after refused ones", machine.feed(1), false);
    }
}
