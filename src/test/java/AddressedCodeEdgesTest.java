/** The boundary cases of what the codes 0 to 5 do with the word at E. */
public final class AddressedCodeEdgesTest {
    private static final Checks CHECKS = new Checks();

    public static void main(String[] args) {
        andOfNoneAndAll();
        tadUpToTheGreatest();
        tadPastTheGreatest();
        tadPastTheGreatestWithLink();
        iszBeforeNought();
        iszToNought();
        dcaOfNoneAndAll();
        jmsBeforeTheEnd();
        jmsAtTheEnd();
        jmsKeepsThePcBehindIt();
        jmpToEitherEnd();
        CHECKS.end();
    }

    /** One step of the word at 0200 with this word at 0100. */
    private static Setup with(int word, int operand, int ac) {
        return Setup.at(0200, word).word(0100, operand).ac(ac);
    }

    /** "AC becomes AC & word at E". */
    private static void andOfNoneAndAll() {
        CHECKS.stepDue("AND of 0", with(00100, 0, 07777), "AC=0 PC=0201");
        CHECKS.stepDue("AND of 07777", with(00100, 07777, 05252), "PC=0201");
        CHECKS.stepDue("AND with AC 0", with(00100, 07777, 0), "PC=0201");
        CHECKS.stepDue("AND of both ends", with(00100, 04001, 07777).link(1), "AC=04001 PC=0201");
        CHECKS.stepDue("AND of nothing in common", with(00100, 02525, 05252).link(1), "AC=0 PC=0201");
    }

    /** "if that passes 07777": 07777 itself does not. */
    private static void tadUpToTheGreatest() {
        CHECKS.stepDue("TAD 0 + 0", with(01100, 0, 0), "PC=0201");
        CHECKS.stepDue("TAD 07777 + 0", with(01100, 0, 07777), "PC=0201");
        CHECKS.stepDue("TAD 0 + 07777", with(01100, 07777, 0), "AC=07777 PC=0201");
        CHECKS.stepDue("TAD 07776 + 1", with(01100, 1, 07776), "AC=07777 PC=0201");
        CHECKS.stepDue("TAD 05252 + 02525", with(01100, 02525, 05252).link(1), "AC=07777 PC=0201");
        CHECKS.stepDue("TAD 03777 + 1", with(01100, 1, 03777), "AC=04000 PC=0201");
    }

    /** "if that passes 07777, 010000 is taken off and L changes". */
    private static void tadPastTheGreatest() {
        CHECKS.stepDue("TAD 07777 + 1", with(01100, 1, 07777), "AC=0 L=1 PC=0201");
        CHECKS.stepDue("TAD 1 + 07777", with(01100, 07777, 1), "AC=0 L=1 PC=0201");
        CHECKS.stepDue("TAD 07777 + 2", with(01100, 2, 07777), "AC=1 L=1 PC=0201");
        CHECKS.stepDue("TAD 04000 + 04000", with(01100, 04000, 04000), "AC=0 L=1 PC=0201");
        CHECKS.stepDue("TAD 07777 + 07777", with(01100, 07777, 07777), "AC=07776 L=1 PC=0201");
    }

    /** "L changes": from 1 to 0. */
    private static void tadPastTheGreatestWithLink() {
        CHECKS.stepDue("TAD 07777 + 1 with L", with(01100, 1, 07777).link(1), "AC=0 L=0 PC=0201");
        CHECKS.stepDue("TAD 07777 + 07777 with L", with(01100, 07777, 07777).link(1), "AC=07776 L=0 PC=0201");
    }

    /** "is it 0 then, skip": 0 becomes 1 and 07776 becomes 07777, without a skip. */
    private static void iszBeforeNought() {
        CHECKS.stepDue("ISZ of 0", with(02100, 0, 0), "@0100=1 PC=0201");
        CHECKS.stepDue("ISZ of 1", with(02100, 1, 0), "@0100=2 PC=0201");
        CHECKS.stepDue("ISZ of 03777", with(02100, 03777, 0), "@0100=04000 PC=0201");
        CHECKS.stepDue("ISZ of 07776", with(02100, 07776, 0), "@0100=07777 PC=0201");
    }

    /** "the word at E becomes 1 more (0 after 07777); is it 0 then, skip": AC and L stay. */
    private static void iszToNought() {
        CHECKS.stepDue("ISZ of 07777", with(02100, 07777, 0), "@0100=0 PC=0202 skips=1");
        CHECKS.stepDue("ISZ of 07777 with AC and L", with(02100, 07777, 07777).link(1), "@0100=0 PC=0202 skips=1");
        CHECKS.stepDue("ISZ of the last word", Setup.at(07600, 02377).word(07777, 07777), "@07777=0 PC=07602 skips=1");
    }

    /** "the word at E becomes AC, then AC 0". */
    private static void dcaOfNoneAndAll() {
        CHECKS.stepDue("DCA of 0", with(03100, 05252, 0), "@0100=0 PC=0201");
        CHECKS.stepDue("DCA of 07777", with(03100, 0, 07777).link(1), "@0100=07777 AC=0 PC=0201");
    }

    /** "PC becomes E + 1": up to 07777. */
    private static void jmsBeforeTheEnd() {
        CHECKS.stepDue("JMS to 0", Setup.at(0200, 04000), "@0=0201 PC=1");
        CHECKS.stepDue("JMS to 07776", Setup.at(07600, 04376), "@07776=07601 PC=07777");
    }

    /** "PC becomes E + 1 (0 after 07777)". */
    private static void jmsAtTheEnd() {
        CHECKS.stepDue("JMS to 07777", Setup.at(07600, 04377), "@07777=07601 PC=0");
        CHECKS.stepDue("JMS by a pointer to 07777", with(04500, 07777, 0), "@07777=0201 PC=0");
        CHECKS.stepDue("JMS of itself at 07777", Setup.at(07777, 04377), "@07777=0 PC=0");
    }

    /** "the word at E becomes PC": the one behind the word, 0 after 07777. */
    private static void jmsKeepsThePcBehindIt() {
        CHECKS.stepDue("JMS at 07776", Setup.at(07776, 04100), "@0100=07777 PC=0101");
        CHECKS.stepDue("JMS at 07777", Setup.at(07777, 04100).word(0100, 5), "@0100=0 PC=0101");
    }

    /** "PC becomes E". */
    private static void jmpToEitherEnd() {
        CHECKS.stepDue("JMP to 0", Setup.at(0200, 05000), "PC=0");
        CHECKS.stepDue("JMP to 07777", Setup.at(07600, 05377), "PC=07777");
        CHECKS.stepDue("JMP to itself", Setup.at(0200, 05200), "PC=0200");
        CHECKS.stepDue("JMP to itself at 07777", Setup.at(07777, 05377), "PC=07777");
    }
}
