/** The boundary cases of the document's terms: words, the core, L, BUFFER, PC and a skip. */
public final class WordEdgesTest {
    private static final Checks CHECKS = new Checks();

    public static void main(String[] args) {
        greatestWordIsKept();
        oneMoreThanAWordIsCutOff();
        programReachesTheFirstWord();
        programReachesTheLastWord();
        wordsAreDoneAtBothEnds();
        linkIsOneBit();
        bufferIsEightBits();
        tapeKeepsItsOrder();
        programCounterBeforeTheEnd();
        programCounterGoesRound();
        skipUpToTheEnd();
        skipToNought();
        skipOverTheEnd();
        noSkipAtTheEnd();
        CHECKS.end();
    }

    /** "A WORD is 12 bits, 0 .. 07777": in the core and in each register. */
    private static void greatestWordIsKept() {
        TapeMachine machine = Setup.fresh().word(5, 07777).make();
        CHECKS.due("the word 07777", machine.peek(5), 07777);
        int[] registers = {Checks.AC, Checks.PC, Checks.MQ, Checks.SR};
        for (int k : registers) {
            CHECKS.due("set to 07777", machine.set(k, 07777), true);
            CHECKS.due("register " + k + " with 07777", machine.register(k), 07777);
        }
        CHECKS.stepDue("DCA of 07777", Setup.at(0200, 03100).ac(07777), "AC=0 PC=0201 @0100=07777");
    }

    private static void oneMoreThanAWordIsCutOff() {
        TapeMachine machine = Setup.fresh().word(5, 010000).word(6, 010001).make();
        CHECKS.due("the word 010000", machine.peek(5), 0);
        CHECKS.due("the word 010001", machine.peek(6), 1);
        CHECKS.stepDue("ISZ of 07777", Setup.at(0200, 02100, 0).word(0100, 07777), "PC=0202 @0100=0 skips=1");
        CHECKS.stepDue("TAD over 07777", Setup.at(0200, 01100).word(0100, 2).ac(07777), "AC=1 L=1 PC=0201");
        CHECKS.stepDue("AC + 1 over 07777", Setup.at(0200, 07001).ac(07777), "AC=0 L=1 PC=0201");
    }

    /** "CORE, 4096 words at the addresses 0 .. 07777": 0, as the address and by a pointer. */
    private static void programReachesTheFirstWord() {
        CHECKS.stepDue("TAD 0", Setup.at(0200, 01000).word(0, 5), "AC=5 PC=0201");
        CHECKS.stepDue("DCA 0", Setup.at(0200, 03000).ac(5), "AC=0 PC=0201 @0=5");
        CHECKS.stepDue("DCA by a pointer to 0", Setup.at(0200, 03500).ac(5), "AC=0 PC=0201 @0=5");
        CHECKS.stepDue("JMP by a pointer to 0", Setup.at(0200, 05500), "PC=0");
    }

    /** "CORE, 4096 words at the addresses 0 .. 07777": 07777, on its page and by a pointer. */
    private static void programReachesTheLastWord() {
        CHECKS.stepDue("TAD 07777", Setup.at(07600, 01377).word(07777, 5), "AC=5 PC=07601");
        CHECKS.stepDue("DCA 07777", Setup.at(07600, 03377).ac(5), "AC=0 PC=07601 @07777=5");
        CHECKS.stepDue("DCA by a pointer to 07777", Setup.at(0200, 03500).word(0100, 07777).ac(5),
                "AC=0 PC=0201 @07777=5");
        CHECKS.stepDue("JMP by a pointer to 07777", Setup.at(0200, 05500).word(0100, 07777), "PC=07777");
    }

    private static void wordsAreDoneAtBothEnds() {
        CHECKS.stepDue("the word at 0", Setup.at(0, 07001), "AC=1 PC=1");
        CHECKS.stepDue("the word at 07777", Setup.at(07777, 07001), "AC=1 PC=0");
    }

    /** "the link L, one bit": changed from 1 it is 0. */
    private static void linkIsOneBit() {
        CHECKS.stepDue("L changes from 0", Setup.at(0200, 07020), "L=1 PC=0201");
        CHECKS.stepDue("L changes from 1", Setup.at(0200, 07020).link(1), "L=0 PC=0201");
        CHECKS.stepDue("TAD changes L from 1", Setup.at(0200, 01100).word(0100, 1).ac(07777).link(1),
                "AC=0 L=0 PC=0201");
        CHECKS.stepDue("AC + 1 changes L from 1", Setup.at(0200, 07001).ac(07777).link(1), "AC=0 L=0 PC=0201");
    }

    /** "the reader's BUFFER, 8 bits". */
    private static void bufferIsEightBits() {
        int[] bytes = {0, 1, 0177, 0200, 0377};
        for (int b : bytes) {
            Setup setup = Setup.at(0200, 06032, 06034).fed(b);
            CHECKS.due("BUFFER of " + b, setup.ran(1).make().register(Checks.BUFFER), b);
            CHECKS.stepDue("AC of BUFFER " + b, setup, "AC=" + b + " PC=0202");
        }
    }

    /** "the TAPE, bytes not yet read, in the order in which they were fed". */
    private static void tapeKeepsItsOrder() {
        CHECKS.changesDue("three bytes", Setup.fresh(), m -> {
            m.feed(255);
            m.feed(0);
            m.feed(128);
        }, "waiting=3 tape_0=255 tape_1=0 tape_2=128 room=397");
        CHECKS.stepDue("the first one is read", Setup.at(0200, 06032).fed(255, 0, 128),
                "PC=0201 RFLAG=1 BUFFER=255 waiting=2 tape_0=0 tape_1=128 tape_2=-2");
    }

    /** "PC + 1 is 0 after 07777": not before. */
    private static void programCounterBeforeTheEnd() {
        CHECKS.stepDue("a step at 07775", Setup.at(07775, Checks.NOTHING), "PC=07776");
        CHECKS.stepDue("a step at 07776", Setup.at(07776, Checks.NOTHING), "PC=07777");
    }

    /** "PC + 1 is 0 after 07777". */
    private static void programCounterGoesRound() {
        CHECKS.stepDue("a step at 07777", Setup.at(07777, Checks.NOTHING), "PC=0");
        CHECKS.stepDue("TAD at 07777", Setup.at(07777, 01100).word(0100, 3), "AC=3 PC=0");
        CHECKS.stepDue("a word of code 6 at 07777", Setup.at(07777, 06001), "DELAY=1 PC=0");
        CHECKS.stepDue("a halt at 07777", Setup.at(07777, Checks.HALT), "HALTED=1 PC=0");
        CHECKS.stepDue("a step at 0", Setup.at(0, Checks.NOTHING), "PC=1");
    }

    private interface SkipDue {
        void check(String what, Setup setup, String changes);
    }

    /** Each kind of word that skips, at this address, with all that makes it skip. */
    private static void everySkip(int here, String pc, SkipDue due) {
        String at = " at " + Checks.octal(here);
        due.check("ISZ" + at, Setup.at(here, 02100).word(0100, 07777), pc + " @0100=0");
        due.check("06031" + at, Setup.at(0300, 06032).word(here, 06031).fed(1).ran(1).pc(here), pc);
        due.check("06041" + at, Setup.at(0300, 06044).word(here, 06041).ran(1).pc(here), pc);
        due.check("07410" + at, Setup.at(here, 07410), pc);
        due.check("07500" + at, Setup.at(here, 07500).ac(04000), pc);
        due.check("07440" + at, Setup.at(here, 07440), pc);
        due.check("07420" + at, Setup.at(here, 07420).link(1), pc);
    }

    private static void skipDue(String what, Setup setup, String changes) {
        CHECKS.stepDue(what, setup, changes + " skips=1");
    }

    /** "TO SKIP: PC becomes PC + 1 once more": to 07777. */
    private static void skipUpToTheEnd() {
        everySkip(0200, "PC=0202", WordEdgesTest::skipDue);
        everySkip(07775, "PC=07777", WordEdgesTest::skipDue);
    }

    /** "TO SKIP: PC becomes PC + 1 once more", and PC + 1 is 0 after 07777. */
    private static void skipToNought() {
        everySkip(07776, "PC=0", WordEdgesTest::skipDue);
    }

    /** PC is 0 already when the word at 07777 skips. */
    private static void skipOverTheEnd() {
        everySkip(07777, "PC=1", WordEdgesTest::skipDue);
    }

    private static void noSkipAtTheEnd() {
        CHECKS.stepDue("ISZ to 07777 at 07776", Setup.at(07776, 02100).word(0100, 07776), "PC=07777 @0100=07777");
        CHECKS.stepDue("07450 at 07776", Setup.at(07776, 07450), "PC=07777");
        CHECKS.stepDue("06031 at 07777", Setup.at(07777, 06031), "PC=0");
        CHECKS.stepDue("06041 at 07777", Setup.at(07777, 06041), "PC=0");
    }
}
