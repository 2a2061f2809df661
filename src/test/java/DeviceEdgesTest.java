/** The boundary cases of code 6: the reader, with and without a byte on the tape, and the printer. */
public final class DeviceEdgesTest {
    private static final Checks CHECKS = new Checks();

    public static void main(String[] args) {
        readerFlagTakenAway();
        skipOnTheReaderFlag();
        advanceWithOneByte();
        advanceWithMoreBytes();
        advanceWithTheLastOfFourHundred();
        advanceWithNoByte();
        advanceWithNoByteEver();
        bufferComesBeforeTheAdvance();
        bufferComesAlsoWithNoByte();
        bufferIsOredIntoAc();
        feedBehindTheEndIsRead();
        skipOnThePrinterFlag();
        printerFlagTakenAway();
        lowestEightBitsArePrinted();
        printingAgainKeepsTheFlag();
        knownWordsWithBothFlags();
        wordsBesideTheKnownOnes();
        CHECKS.end();
    }

    /** A byte is in BUFFER with the flag set, and these are on the tape; the word is next, at 0301. */
    private static Setup read(int word, int... left) {
        return Setup.at(0300, 06032, word).fed(0123).fed(left).ran(1);
    }

    /** "06030 the reader's flag is no longer set": set before, and not. */
    private static void readerFlagTakenAway() {
        CHECKS.stepDue("06030 with the flag", read(06030, 7).ac(05252), "RFLAG=0 PC=0302");
        CHECKS.stepDue("06030 without the flag", Setup.at(0300, 06030).fed(7).ac(05252), "PC=0301");
    }

    /** "06031 skip if the reader's flag is set": the flag stays, and the printer's is not looked at. */
    private static void skipOnTheReaderFlag() {
        CHECKS.stepDue("06031 with the flag", read(06031), "PC=0303 skips=1");
        CHECKS.stepDue("06031 without the flag", Setup.at(0300, 06031).fed(7), "PC=0301");
        CHECKS.stepDue("06031 with the printer's flag", Setup.at(0300, 06044, 06031).ran(1), "PC=0302");
    }

    /** "if there is a byte on the tape, the first one is taken from it into BUFFER, and the reader's flag is set". */
    private static void advanceWithOneByte() {
        int[] bytes = {0, 1, 0200, 0377};
        for (int b : bytes) {
            CHECKS.stepDue("06032 of the only byte " + b, Setup.at(0300, 06032).fed(b).ac(07777).link(1),
                    "AC=0 RFLAG=1 BUFFER=" + b + " waiting=0 tape_0=-2 PC=0301");
            CHECKS.stepDue("06036 of the only byte " + b, Setup.at(0300, 06036).fed(b).ac(07777).link(1),
                    "AC=0 RFLAG=1 BUFFER=" + b + " waiting=0 tape_0=-2 PC=0301");
        }
    }

    private static void advanceWithMoreBytes() {
        CHECKS.stepDue("06032 with two bytes", read(06032, 0377, 0).ac(07777),
                "AC=0 BUFFER=0377 waiting=1 tape_0=0 tape_1=-2 PC=0302");
        CHECKS.stepDue("06036 with two bytes", read(06036, 0, 0377).ac(07777),
                "AC=0123 BUFFER=0 waiting=1 tape_0=0377 tape_1=-2 PC=0302");
        CHECKS.stepDue("06032 with two bytes, the flag gone", read(06030, 5, 6).ran(1).word(0302, 06032),
                "RFLAG=1 BUFFER=5 waiting=1 tape_0=6 tape_1=-2 PC=0303");
    }

    /** The 400th byte is read as the others, and then there is none. */
    private static void advanceWithTheLastOfFourHundred() {
        CHECKS.stepDue("06032 of the byte before the last", Setup.full(398).ac(5),
                "AC=0 BUFFER=147 waiting=1 tape_0=148 tape_1=-2 PC=1");
        CHECKS.stepDue("06032 of the last byte", Setup.full(399).ac(5),
                "AC=0 BUFFER=148 waiting=0 tape_0=-2 PC=1");
        CHECKS.stepDue("06032 behind the last byte", Setup.full(400).ac(5), "AC=0 RFLAG=0 PC=1");
        CHECKS.stepDue("06032 far behind the last byte", Setup.full(500).ac(5), "AC=0 PC=1");
    }

    /** "else nothing happens": but the flag is gone before the reader advances, and AC is 0 or BUFFER. */
    private static void advanceWithNoByte() {
        CHECKS.stepDue("06032 without a byte", read(06032).ac(07777), "AC=0 RFLAG=0 PC=0302");
        CHECKS.stepDue("06036 without a byte", read(06036).ac(07777), "AC=0123 RFLAG=0 PC=0302");
        CHECKS.stepDue("06032 without a byte again", read(06032).ran(1).word(0302, 06032).ac(5), "AC=0 PC=0303");
        CHECKS.stepDue("06036 without a byte again", read(06036).ran(1).word(0302, 06036).ac(5), "AC=0123 PC=0303");
    }

    private static void advanceWithNoByteEver() {
        CHECKS.stepDue("06032, nothing fed", Setup.at(0300, 06032).ac(07777), "AC=0 PC=0301");
        CHECKS.stepDue("06036, nothing fed", Setup.at(0300, 06036).ac(07777), "AC=0 PC=0301");
        CHECKS.stepDue("06032, bytes refused", Setup.at(0300, 06032).fed(-1, 256), "PC=0301");
    }

    /** "06036 AC becomes BUFFER, .. then the reader advances": the byte before, not the one to come. */
    private static void bufferComesBeforeTheAdvance() {
        CHECKS.stepDue("06036, a greater byte to come", read(06036, 0377).ac(0),
                "AC=0123 BUFFER=0377 waiting=0 tape_0=-2 PC=0302");
        CHECKS.stepDue("06036, the byte 0 to come", read(06036, 0).ac(07400).link(1),
                "AC=0123 BUFFER=0 waiting=0 tape_0=-2 PC=0302");
    }

    private static void bufferComesAlsoWithNoByte() {
        Setup greatest = Setup.at(0300, 06032, 06036).fed(0377).ran(1).ac(07400);
        CHECKS.stepDue("06036 of 0377 without a byte", greatest, "AC=0377 RFLAG=0 PC=0302");
    }

    /** "06034 AC becomes AC | BUFFER": 8 bits, and the flag and the tape stay. */
    private static void bufferIsOredIntoAc() {
        Setup greatest = Setup.at(0300, 06032, 06034).fed(0377, 5).ran(1);
        CHECKS.stepDue("06034 of 0377 into 07400", greatest.ac(07400), "AC=07777 PC=0302");
        CHECKS.stepDue("06034 of 0377 into 0", greatest.ac(0), "AC=0377 PC=0302");
        Setup least = Setup.at(0300, 06032, 06034).fed(0, 5).ran(1);
        CHECKS.stepDue("06034 of 0", least.ac(05252), "PC=0302");
        CHECKS.stepDue("06034 of bits that are there", read(06034, 5).ac(05123), "PC=0302");
        CHECKS.stepDue("06034, nothing read", Setup.at(0300, 06034).fed(7).ac(05252), "PC=0301");
    }

    /** The tape ran empty and is fed again: the reader goes on, by an advance alone. */
    private static void feedBehindTheEndIsRead() {
        Setup setup = read(06032).ran(1).word(0302, 06032);
        CHECKS.changesDue("feed behind the end", setup, m -> m.feed(5), "waiting=1 tape_0=5 room=398");
        CHECKS.stepDue("06032 of a byte fed late", setup.fed(5), "RFLAG=1 BUFFER=5 waiting=0 tape_0=-2 PC=0303");
    }

    /** "06041 skip if the printer's flag is set": it stays, and the reader's is not looked at. */
    private static void skipOnThePrinterFlag() {
        CHECKS.stepDue("06041 with the flag", Setup.at(0300, 06044, 06041).ran(1), "PC=0303 skips=1");
        CHECKS.stepDue("06041 without the flag", Setup.at(0300, 06041), "PC=0301");
        CHECKS.stepDue("06041 with the reader's flag", read(06041), "PC=0302");
    }

    /** "06042 the printer's flag is no longer set": set before, and not. */
    private static void printerFlagTakenAway() {
        CHECKS.stepDue("06042 with the flag", Setup.at(0300, 06044, 06042).ran(1), "PFLAG=0 PC=0302");
        CHECKS.stepDue("06042 without the flag", Setup.at(0300, 06042), "PC=0301");
        CHECKS.stepDue("06042 with the reader's flag", read(06042), "PC=0302");
    }

    /** "06044 and 06046 the lowest 8 bits of AC are printed, and the printer's flag is set". */
    private static void lowestEightBitsArePrinted() {
        int[][] cases = {{0, 0}, {1, 1}, {0377, 0377}, {0400, 0}, {0777, 0377}, {07400, 0}, {07777, 0377}};
        for (int[] c : cases) {
            String due = "PFLAG=1 prints=1 printed_0=" + c[1] + " PC=0301";
            CHECKS.stepDue("06044 of " + Checks.octal(c[0]), Setup.at(0300, 06044).ac(c[0]).link(1), due);
            CHECKS.stepDue("06046 of " + Checks.octal(c[0]), Setup.at(0300, 06046).ac(c[0]).link(1), due);
        }
    }

    private static void printingAgainKeepsTheFlag() {
        CHECKS.stepDue("06044 with the flag", Setup.at(0300, 06046, 06044).ac(5).ran(1).ac(6),
                "prints=2 printed_0=6 printed_1=5 PC=0302");
        CHECKS.stepDue("06046 with the flag", Setup.at(0300, 06044, 06046).ac(5).ran(1).ac(6),
                "prints=2 printed_0=6 printed_1=5 PC=0302");
    }

    /** Both flags set and a byte on the tape: each word does its own work and none of another's. */
    private static void knownWordsWithBothFlags() {
        flaggedDue(06001, "DELAY=1 PC=0303");
        flaggedDue(06002, "PC=0303");
        flaggedDue(06030, "RFLAG=0 PC=0303");
        flaggedDue(06031, "PC=0304 skips=1");
        flaggedDue(06032, "AC=0 BUFFER=0321 waiting=0 tape_0=-2 PC=0303");
        flaggedDue(06034, "AC=05373 PC=0303");
        flaggedDue(06036, "AC=0123 BUFFER=0321 waiting=0 tape_0=-2 PC=0303");
        flaggedDue(06041, "PC=0304 skips=1");
        flaggedDue(06042, "PFLAG=0 PC=0303");
        flaggedDue(06044, "prints=2 printed_0=0252 printed_1=0 PC=0303");
        flaggedDue(06046, "prints=2 printed_0=0252 printed_1=0 PC=0303");
    }

    private static Setup flagged(int word) {
        return Setup.at(0300, 06032, 06046, word).fed(0123, 0321).ran(2).ac(05252).link(1)
                .register(Checks.MQ, 1).register(Checks.SR, 2);
    }

    private static void flaggedDue(int word, String changes) {
        CHECKS.stepDue("word " + Checks.octal(word) + " with both flags", flagged(word), changes);
    }

    /** "All others: nothing": the words one off the known ones, and the first and last of code 6. */
    private static void wordsBesideTheKnownOnes() {
        int[] others = {
            06000, 06003, 06004, 06007, 06027, 06033, 06035, 06037, 06040, 06043, 06045, 06047, 06050,
            06101, 06130, 06136, 06146, 06201, 06232, 06246, 06401, 06402, 06431, 06446, 06776, 06777,
        };
        for (int word : others) {
            flaggedDue(word, "PC=0303");
            CHECKS.stepDue("word " + Checks.octal(word) + " with ION", Setup.at(0300, 06001, 0, word).ran(2), "PC=0303");
        }
    }
}
