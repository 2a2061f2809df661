/** Code 6, as run (promise 9) does it. */
public final class DeviceCodesTest {
    private static final Checks CHECKS = new Checks();

    public static void main(String[] args) {
        readerFlag();
        advanceClearsAc();
        advanceReadsTheBufferBefore();
        bufferIsOred();
        emptyTape();
        printer();
        knownWordsChangeNothingElse();
        allOthersDoNothing();
        CHECKS.end();
    }

    private static void readerFlag() {
        TapeMachine machine = Checks.loaded(0200, 06031, 06032, 06031, Checks.HALT, 06030, 06031, Checks.HALT);
        machine.feed(0123);
        machine.run(1);
        CHECKS.due("06031 without the flag", machine.register(Checks.PC), 0201);
        machine.run(1);
        CHECKS.due("flag after 06032", machine.register(Checks.READER_FLAG), 1);
        machine.run(1);
        CHECKS.due("06031 with the flag", machine.register(Checks.PC), 0204);
        CHECKS.due("06031 leaves the flag", machine.register(Checks.READER_FLAG), 1);
        machine.feed(0124);
        machine.set(Checks.AC, 01111);
        machine.run(1);
        CHECKS.due("06030 takes the flag", machine.register(Checks.READER_FLAG), 0);
        CHECKS.due("06030 leaves AC", machine.register(Checks.AC), 01111);
        CHECKS.due("06030 leaves BUFFER", machine.register(Checks.BUFFER), 0123);
        CHECKS.due("06030 leaves the tape", machine.waiting(), 1);
        machine.run(1);
        CHECKS.due("06031 after 06030", machine.register(Checks.PC), 0206);
    }

    private static void advanceClearsAc() {
        TapeMachine machine = Checks.loaded(0200, 06032);
        machine.feed(0123);
        machine.set(Checks.AC, 07777);
        machine.set(Checks.L, 1);
        machine.run(1);
        CHECKS.registersDue("06032", machine, 0, 1, 0201);
        CHECKS.due("06032, BUFFER", machine.register(Checks.BUFFER), 0123);
        CHECKS.due("06032, waiting", machine.waiting(), 0);
    }

    private static void advanceReadsTheBufferBefore() {
        TapeMachine machine = Checks.loaded(0200, 06036, 06036, 06036);
        machine.feed(0123);
        machine.feed(0321);
        machine.set(Checks.AC, 07777);
        machine.run(1);
        CHECKS.due("first 06036, AC", machine.register(Checks.AC), 0);
        CHECKS.due("first 06036, BUFFER", machine.register(Checks.BUFFER), 0123);
        machine.set(Checks.AC, 07777);
        machine.run(1);
        CHECKS.due("second 06036, AC", machine.register(Checks.AC), 0123);
        CHECKS.due("second 06036, BUFFER", machine.register(Checks.BUFFER), 0321);
        CHECKS.due("second 06036, flag", machine.register(Checks.READER_FLAG), 1);
        machine.run(1);
        CHECKS.due("third 06036, AC", machine.register(Checks.AC), 0321);
        CHECKS.due("third 06036, BUFFER", machine.register(Checks.BUFFER), 0321);
        CHECKS.due("third 06036, flag", machine.register(Checks.READER_FLAG), 0);
    }

    private static void bufferIsOred() {
        TapeMachine machine = Checks.loaded(0200, 06032, 06034);
        machine.feed(0123);
        machine.feed(0);
        machine.run(1);
        machine.set(Checks.AC, 07440);
        machine.run(1);
        CHECKS.due("06034, AC", machine.register(Checks.AC), 07563);
        CHECKS.due("06034 leaves the flag", machine.register(Checks.READER_FLAG), 1);
        CHECKS.due("06034 leaves the tape", machine.waiting(), 1);
        CHECKS.due("06034 leaves BUFFER", machine.register(Checks.BUFFER), 0123);
    }

    private static void emptyTape() {
        TapeMachine machine = Checks.loaded(0200, 06032, 06032, 06034);
        machine.feed(0200);
        machine.run(1);
        machine.set(Checks.AC, 1);
        machine.run(1);
        CHECKS.due("06032 on an empty tape, AC", machine.register(Checks.AC), 0);
        CHECKS.due("06032 on an empty tape, flag", machine.register(Checks.READER_FLAG), 0);
        CHECKS.due("06032 on an empty tape, BUFFER", machine.register(Checks.BUFFER), 0200);
        machine.feed(0100);
        CHECKS.due("feed alone sets no flag", machine.register(Checks.READER_FLAG), 0);
        CHECKS.due("feed alone reads nothing", machine.register(Checks.BUFFER), 0200);
        machine.run(1);
        CHECKS.due("06034 of the byte read", machine.register(Checks.AC), 0200);
    }

    private static void printer() {
        int[] prints = {06044, 06046};
        for (int print : prints) {
            TapeMachine machine = Checks.loaded(0200, 06041, print, 06041, Checks.HALT, 06042, 06041, Checks.HALT);
            machine.set(Checks.AC, 07401);
            machine.set(Checks.L, 1);
            machine.run(1);
            CHECKS.due("06041 without the flag", machine.register(Checks.PC), 0201);
            machine.run(1);
            CHECKS.registersDue("print", machine, 07401, 1, 0202);
            CHECKS.due("flag of the print", machine.register(Checks.PRINTER_FLAG), 1);
            CHECKS.due("the byte", machine.printed(0), 1);
            machine.run(1);
            CHECKS.due("06041 with the flag", machine.register(Checks.PC), 0204);
            CHECKS.due("06041 leaves the flag", machine.register(Checks.PRINTER_FLAG), 1);
            machine.run(1);
            CHECKS.due("06042 takes the flag", machine.register(Checks.PRINTER_FLAG), 0);
            CHECKS.due("06042 prints nothing", machine.printed(-1), 1);
            machine.run(1);
            CHECKS.due("06041 after 06042", machine.register(Checks.PC), 0206);
        }
    }

    private static boolean meansSomething(int word) {
        int[] known = {06001, 06002, 06030, 06031, 06032, 06034, 06036, 06041, 06042, 06044, 06046};
        for (int k : known) {
            if (k == word) {
                return true;
            }
        }
        return false;
    }

    private static void allOthersDoNothing() {
        for (int word = 06000; word <= 06777; word++) {
            if (!meansSomething(word)) {
                nothingDue(word);
            }
        }
    }

    private static void nothingDue(int word) {
        allDue(word, 05670, 0203, 0, 1, 0123, 1);
        CHECKS.due("word " + Integer.toOctalString(word) + ", printed", flagged(word).printed(-1), 1);
    }

    private static void knownWordsChangeNothingElse() {
        //     word,  AC,    PC,   DELAY, reader's flag, BUFFER, printer's flag
        allDue(06001, 05670, 0203, 1, 1, 0123, 1);
        allDue(06002, 05670, 0203, 0, 1, 0123, 1);
        allDue(06030, 05670, 0203, 0, 0, 0123, 1);
        allDue(06031, 05670, 0204, 0, 1, 0123, 1);
        allDue(06032, 0, 0203, 0, 1, 0321, 1);
        allDue(06034, 05773, 0203, 0, 1, 0123, 1);
        allDue(06036, 0123, 0203, 0, 1, 0321, 1);
        allDue(06041, 05670, 0204, 0, 1, 0123, 1);
        allDue(06042, 05670, 0203, 0, 1, 0123, 0);
        allDue(06044, 05670, 0203, 0, 1, 0123, 1);
        allDue(06046, 05670, 0203, 0, 1, 0123, 1);
        CHECKS.due("06044 prints one byte", flagged(06044).printed(-1), 2);
        CHECKS.due("06046 prints one byte", flagged(06046).printed(-1), 2);
    }

    /** One step of the word with both flags set and a byte on the tape, so that all it does shows. */
    private static TapeMachine flagged(int word) {
        TapeMachine machine = Checks.loaded(0200, 06032, 06044, word);
        machine.feed(0123);
        machine.feed(0321);
        machine.run(2);
        machine.set(Checks.AC, 05670);
        machine.set(Checks.L, 1);
        machine.set(Checks.MQ, 2);
        machine.set(Checks.SR, 3);
        machine.run(1);
        return machine;
    }

    private static void allDue(int word, int ac, int pc, int delay, int readerFlag, int buffer, int printerFlag) {
        TapeMachine machine = flagged(word);
        int[] want = {ac, 1, pc, 2, 3, 0, delay, readerFlag, buffer, printerFlag, 0};
        String what = "word " + Integer.toOctalString(word);
        for (int k = 0; k < want.length; k++) {
            CHECKS.due(what + ", register " + k, machine.register(k), want[k]);
        }
        CHECKS.due(what + ", waiting", machine.waiting(), buffer == 0321 ? 0 : 1);
        CHECKS.due(what + ", skips", machine.skips(), pc - 0203);
    }
}
