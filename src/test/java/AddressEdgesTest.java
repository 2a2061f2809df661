/** The boundary cases of the addresses and pointers of codes 0 to 5. */
public final class AddressEdgesTest {
    private static final Checks CHECKS = new Checks();

    public static void main(String[] args) {
        leastAndGreatestOffset();
        pageOfTheFirstAndLastWord();
        pageIsOfHereNotOfPc();
        pageNoughtByEitherWord();
        pointerBelowTheRisingOnes();
        firstAndLastRisingPointer();
        pointerAboveTheRisingOnes();
        pointersOfOtherPagesDoNotRise();
        pointersOfPageNoughtRiseByEitherWord();
        risingPointerGoesRound();
        restingPointerDoesNotGoRound();
        risingPointersWithoutPointing();
        risingPointersRiseForEveryCode();
        pointerThatPointsToItself();
        pointerThatIsTheWordItself();
        CHECKS.end();
    }

    /** JMP shows E: it becomes PC, and nothing else changes. */
    private static void addressDue(int here, int word, int e) {
        String what = "JMP " + Checks.octal(word) + " at " + Checks.octal(here);
        CHECKS.stepDue(what, Setup.at(here, word), "PC=" + e);
    }

    /** A JMP by the pointer at a, which rises or not. */
    private static void pointerDue(int here, int word, int a, int before, int after) {
        String what = "JMP " + Checks.octal(word) + " at " + Checks.octal(here) + " by " + Checks.octal(before);
        CHECKS.stepDue(what, Setup.at(here, word).word(a, before), "PC=" + after + " " + Whole.word(a) + "=" + after);
    }

    /** "the lowest 7 bits of w": 0 and 0177. */
    private static void leastAndGreatestOffset() {
        addressDue(0300, 05000, 0);
        addressDue(0300, 05001, 1);
        addressDue(0300, 05176, 0176);
        addressDue(0300, 05177, 0177);
        addressDue(0300, 05200, 0200);
        addressDue(0300, 05377, 0377);
    }

    /** "with 0200 in w the page of HERE (HERE without its lowest 7 bits) is added". */
    private static void pageOfTheFirstAndLastWord() {
        for (int page = 0; page <= 07600; page += 0200) {
            addressDue(page, 05200, page);
            addressDue(page, 05377, page + 0177);
            addressDue(page + 0177, 05200, page);
            addressDue(page + 0177, 05377, page + 0177);
            addressDue(page + 0177, 05100, 0100);
        }
    }

    /** At the last word of a page PC is on the next one already, at 07777 on page 0. */
    private static void pageIsOfHereNotOfPc() {
        CHECKS.stepDue("DCA at 0377", Setup.at(0377, 03205).ac(7), "AC=0 PC=0400 @0205=7");
        CHECKS.stepDue("DCA at 07777", Setup.at(07777, 03205).ac(7), "AC=0 PC=0 @07605=7");
        CHECKS.stepDue("DCA at 0400", Setup.at(0400, 03205).ac(7), "AC=0 PC=0401 @0405=7");
        CHECKS.stepDue("DCA by a pointer at 0377", Setup.at(0377, 03605).word(0205, 01000).word(0405, 02000).ac(7),
                "AC=0 PC=0400 @01000=7");
    }

    private static void pageNoughtByEitherWord() {
        CHECKS.stepDue("DCA 0105 at 0100", Setup.at(0100, 03105).ac(7), "AC=0 PC=0101 @0105=7");
        CHECKS.stepDue("DCA 0305 at 0100", Setup.at(0100, 03305).ac(7), "AC=0 PC=0101 @0105=7");
    }

    /** "is it 010 .. 017": 07 is not, nor is 0. */
    private static void pointerBelowTheRisingOnes() {
        pointerDue(0300, 05407, 07, 0500, 0500);
        pointerDue(0300, 05406, 06, 0500, 0500);
        pointerDue(0300, 05400, 0, 0500, 0500);
    }

    /** "is it 010 .. 017, the word there first becomes 1 more .., and stays so; E is the word there then". */
    private static void firstAndLastRisingPointer() {
        for (int a = 010; a <= 017; a++) {
            pointerDue(0300, 05400 + a, a, 0500, 0501);
        }
        Setup twice = Setup.at(0300, 01410, 01410).word(010, 0500).word(0501, 3).word(0502, 4).ran(1);
        CHECKS.stepDue("a pointer that rises again", twice, "AC=7 PC=0302 @010=0502");
    }

    /** "is it 010 .. 017": 020 is not, nor is what has these lowest bits. */
    private static void pointerAboveTheRisingOnes() {
        int[] others = {020, 021, 027, 030, 037, 0110, 0117, 0170, 0177};
        for (int a : others) {
            pointerDue(0300, 05400 + a, a, 0500, 0500);
        }
    }

    private static void pointersOfOtherPagesDoNotRise() {
        int[] pages = {0200, 0400, 01000, 04000, 07600};
        for (int page : pages) {
            pointerDue(page + 0100, 05610, page + 010, 0500, 0500);
            pointerDue(page + 0100, 05617, page + 017, 0500, 0500);
        }
    }

    /** On page 0 the page adds nothing: the address is 010 .. 017 by either word. */
    private static void pointersOfPageNoughtRiseByEitherWord() {
        pointerDue(0100, 05607, 07, 0500, 0500);
        pointerDue(0100, 05610, 010, 0500, 0501);
        pointerDue(0100, 05617, 017, 0500, 0501);
        pointerDue(0100, 05620, 020, 0500, 0500);
        pointerDue(0177, 05610, 010, 0500, 0501);
        pointerDue(0100, 05410, 010, 0500, 0501);
    }

    /** "becomes 1 more (0 after 07777)". */
    private static void risingPointerGoesRound() {
        for (int a = 010; a <= 017; a++) {
            pointerDue(0300, 05400 + a, a, 07776, 07777);
            pointerDue(0300, 05400 + a, a, 07777, 0);
        }
        CHECKS.stepDue("DCA by a pointer that goes round", Setup.at(0300, 03410).word(010, 07777).ac(7),
                "AC=0 PC=0301 @010=0 @0=7");
        CHECKS.stepDue("TAD by a pointer that goes round", Setup.at(0300, 01417).word(017, 07777).word(0, 7).link(1),
                "AC=7 PC=0301 @017=0");
    }

    private static void restingPointerDoesNotGoRound() {
        pointerDue(0300, 05407, 07, 07777, 07777);
        pointerDue(0300, 05420, 020, 07777, 07777);
        pointerDue(0300, 05420, 020, 0, 0);
    }

    /** "Without 0400 E is the address itself": 010 .. 017 are words like others. */
    private static void risingPointersWithoutPointing() {
        for (int a = 010; a <= 017; a++) {
            CHECKS.stepDue("TAD of a word that could rise", Setup.at(0300, 01000 + a).word(a, 05), "AC=05 PC=0301");
            CHECKS.stepDue("JMP to a word that could rise", Setup.at(0300, 05000 + a).word(a, 05), "PC=" + a);
        }
    }

    private static void risingPointersRiseForEveryCode() {
        String[] due = {
            "AC=01500 PC=0301", "AC=01230 L=1 PC=0301", "@01000=07501 PC=0301",
            "@01000=01530 AC=0 PC=0301", "@01000=0301 PC=01001", "PC=01000",
        };
        for (int code = 0; code <= 5; code++) {
            Setup setup = Setup.at(0300, (code << 9) + 0413).word(013, 0777).word(01000, 07500).word(0777, 0123).ac(01530);
            CHECKS.stepDue("code " + code + " by a rising pointer", setup, due[code] + " @013=01000");
        }
    }

    private static void pointerThatPointsToItself() {
        CHECKS.stepDue("DCA by 010 to 010", Setup.at(0300, 03410).word(010, 07).ac(0777), "AC=0 PC=0301 @010=0777");
        CHECKS.stepDue("TAD by 010 of 010", Setup.at(0300, 01410).word(010, 07), "AC=010 PC=0301 @010=010");
        CHECKS.stepDue("ISZ by 010 of 010", Setup.at(0300, 02410).word(010, 07), "PC=0301 @010=011");
        CHECKS.stepDue("JMS by 020 to 020", Setup.at(0300, 04420).word(020, 020), "PC=021 @020=0301");
    }

    /** The word is taken before it is done: that it changes itself does not change what it does. */
    private static void pointerThatIsTheWordItself() {
        CHECKS.stepDue("ISZ of itself", Setup.at(0200, 02200), "PC=0201 @0200=02201");
        CHECKS.stepDue("JMP by itself at 010", Setup.at(010, 05410), "PC=05411 @010=05411");
        CHECKS.stepDue("DCA of itself", Setup.at(0200, 03200).ac(0123), "AC=0 PC=0201 @0200=0123");
    }
}
