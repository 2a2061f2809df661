/** The boundary cases of code 7: AC + 1, the turns of 13 bits, the condition, SR and MQ. */
public final class OperateEdgesTest {
    private static final Checks CHECKS = new Checks();

    public static void main(String[] args) {
        oneMoreBeforeTheEnd();
        oneMoreGoesRound();
        changesInTheirOrder();
        turnLeftByOne();
        turnLeftByTwo();
        turnRightByOne();
        turnRightByTwo();
        eachBitTurns();
        noTurn();
        turnComesLast();
        conditionOnTheSign();
        conditionOnNought();
        conditionOnTheLink();
        noConditionAtAll();
        conditionsTogether();
        conditionComesFirst();
        switchesAndHaltComeLast();
        secondRegister();
        otherBitsMeanNothingThere();
        CHECKS.end();
    }

    private static void changeDue(int word, int ac, int l, int wantAc, int wantL) {
        String what = "word " + Checks.octal(word) + " with AC " + Checks.octal(ac) + ", L " + l;
        CHECKS.stepDue(what, Setup.at(0200, word).ac(ac).link(l), "AC=" + wantAc + " L=" + wantL + " PC=0201");
    }

    /** "01 AC + 1, which is 0 after 07777, and L changes then": not before. */
    private static void oneMoreBeforeTheEnd() {
        changeDue(07001, 0, 0, 1, 0);
        changeDue(07001, 0, 1, 1, 1);
        changeDue(07001, 03777, 0, 04000, 0);
        changeDue(07001, 07776, 0, 07777, 0);
        changeDue(07001, 07776, 1, 07777, 1);
    }

    /** "01 AC + 1, which is 0 after 07777, and L changes then". */
    private static void oneMoreGoesRound() {
        changeDue(07001, 07777, 0, 0, 1);
        changeDue(07001, 07777, 1, 0, 0);
    }

    /** "in this order: 0200 .. 0100 .. 040 .. 020 .. 01". */
    private static void changesInTheirOrder() {
        changeDue(07240, 01234, 0, 07777, 0);
        changeDue(07241, 01234, 0, 0, 1);
        changeDue(07241, 01234, 1, 0, 0);
        changeDue(07120, 01234, 0, 01234, 1);
        changeDue(07120, 01234, 1, 01234, 1);
        changeDue(07041, 0, 0, 0, 1);
        changeDue(07041, 1, 0, 07777, 0);
        changeDue(07041, 07777, 0, 1, 0);
        changeDue(07041, 04000, 1, 04000, 1);
        changeDue(07101, 07777, 1, 0, 1);
        changeDue(07021, 07777, 0, 0, 0);
        changeDue(07121, 07777, 0, 0, 0);
        changeDue(07201, 07777, 1, 1, 1);
        changeDue(07300, 07777, 1, 0, 0);
        changeDue(07361, 05252, 1, 0, 0);
    }

    /** "a turn of the 13 bits L, AC (L the highest): 04 without 010 to the left, .. by one place". */
    private static void turnLeftByOne() {
        changeDue(07004, 04000, 0, 0, 1);
        changeDue(07004, 0, 1, 1, 0);
        changeDue(07004, 03777, 0, 07776, 0);
        changeDue(07004, 04000, 1, 1, 1);
        changeDue(07004, 07777, 1, 07777, 1);
        changeDue(07004, 0, 0, 0, 0);
    }

    /** "or by two with 02". */
    private static void turnLeftByTwo() {
        changeDue(07006, 04000, 0, 1, 0);
        changeDue(07006, 02000, 0, 0, 1);
        changeDue(07006, 0, 1, 2, 0);
        changeDue(07006, 1, 0, 4, 0);
        changeDue(07006, 07777, 1, 07777, 1);
        changeDue(07006, 07777, 0, 07775, 1);
    }

    /** "010 without 04 to the right, by one place". */
    private static void turnRightByOne() {
        changeDue(07010, 1, 0, 0, 1);
        changeDue(07010, 0, 1, 04000, 0);
        changeDue(07010, 07776, 0, 03777, 0);
        changeDue(07010, 1, 1, 04000, 1);
        changeDue(07010, 07777, 1, 07777, 1);
    }

    /** "or by two with 02". */
    private static void turnRightByTwo() {
        changeDue(07012, 1, 0, 04000, 0);
        changeDue(07012, 2, 0, 0, 1);
        changeDue(07012, 0, 1, 02000, 0);
        changeDue(07012, 04000, 0, 01000, 0);
        changeDue(07012, 07777, 1, 07777, 1);
        changeDue(07012, 07777, 0, 05777, 1);
    }

    /** Each of the 13 bits alone, and each alone missing, by each turn. */
    private static void eachBitTurns() {
        int[][] turns = {{07004, 1}, {07006, 2}, {07010, 12}, {07012, 11}};
        for (int[] turn : turns) {
            for (int bit = 0; bit < 13; bit++) {
                int before = 1 << bit;
                int after = 1 << ((bit + turn[1]) % 13);
                changeDue(turn[0], before & 07777, before >> 12, after & 07777, after >> 12);
                changeDue(turn[0], ~before & 07777, 1 - (before >> 12), ~after & 07777, 1 - (after >> 12));
            }
        }
    }

    /** "04 and 010 together, or 02 alone: no turn". */
    private static void noTurn() {
        int[] words = {07000, 07002, 07014, 07016};
        for (int word : words) {
            changeDue(word, 04001, 0, 04001, 0);
            changeDue(word, 02524, 1, 02524, 1);
        }
    }

    private static void turnComesLast() {
        changeDue(07005, 07777, 0, 1, 0);
        changeDue(07011, 07777, 0, 04000, 0);
        changeDue(07007, 07777, 1, 0, 0);
        changeDue(07204, 07777, 1, 1, 0);
        changeDue(07104, 04000, 1, 0, 1);
        changeDue(07024, 0, 0, 1, 0);
        changeDue(07044, 07777, 1, 1, 0);
        changeDue(07017, 07777, 0, 0, 1);
    }

    private static void skipDue(int word, int ac, int l, boolean skips) {
        String what = "word " + Checks.octal(word) + " with AC " + Checks.octal(ac) + ", L " + l;
        CHECKS.stepDue(what, Setup.at(0200, word).ac(ac).link(l), skips ? "PC=0202 skips=1" : "PC=0201");
    }

    /** A condition and, with 010, its opposite. */
    private static void conditionDue(int word, int ac, int l, boolean holds) {
        skipDue(word, ac, l, holds);
        skipDue(word + 010, ac, l, !holds);
    }

    /** "0100 is there and AC is 04000 or more". */
    private static void conditionOnTheSign() {
        for (int l = 0; l <= 1; l++) {
            conditionDue(07500, 0, l, false);
            conditionDue(07500, 03777, l, false);
            conditionDue(07500, 04000, l, true);
            conditionDue(07500, 04001, l, true);
            conditionDue(07500, 07777, l, true);
        }
    }

    /** "040 is there and AC is 0". */
    private static void conditionOnNought() {
        for (int l = 0; l <= 1; l++) {
            conditionDue(07440, 0, l, true);
            conditionDue(07440, 1, l, false);
            conditionDue(07440, 04000, l, false);
            conditionDue(07440, 07777, l, false);
        }
    }

    /** "020 is there and L is 1". */
    private static void conditionOnTheLink() {
        int[] acs = {0, 1, 04000, 07777};
        for (int ac : acs) {
            conditionDue(07420, ac, 0, false);
            conditionDue(07420, ac, 1, true);
        }
    }

    /** None of the three is there: it does not hold, whatever AC and L are. */
    private static void noConditionAtAll() {
        int[] acs = {0, 1, 04000, 07777};
        for (int ac : acs) {
            conditionDue(07400, ac, 0, false);
            conditionDue(07400, ac, 1, false);
        }
    }

    /** "or": one of those that are there is enough, and one step skips once. */
    private static void conditionsTogether() {
        int[] acs = {0, 1, 03777, 04000, 07777};
        for (int ac : acs) {
            for (int l = 0; l <= 1; l++) {
                conditionDue(07540, ac, l, ac == 0 || ac >= 04000);
                conditionDue(07520, ac, l, ac >= 04000 || l == 1);
                conditionDue(07460, ac, l, ac == 0 || l == 1);
                conditionDue(07560, ac, l, ac == 0 || ac >= 04000 || l == 1);
            }
        }
    }

    private static void allDue(int word, int ac, int sr, String changes) {
        String what = "word " + Checks.octal(word) + " with AC " + Checks.octal(ac) + ", SR " + Checks.octal(sr);
        CHECKS.stepDue(what, Setup.at(0200, word).ac(ac).register(Checks.SR, sr), changes);
    }

    /** "Then 0200 AC becomes 0; then 04 AC becomes AC | SR": the condition is looked at before. */
    private static void conditionComesFirst() {
        allDue(07640, 0, 0, "PC=0202 skips=1");
        allDue(07640, 1, 0, "AC=0 PC=0201");
        allDue(07700, 04000, 0, "AC=0 PC=0202 skips=1");
        allDue(07700, 03777, 0, "AC=0 PC=0201");
        allDue(07504, 0, 04000, "AC=04000 PC=0201");
        allDue(07444, 0, 1, "AC=1 PC=0202 skips=1");
    }

    /** "then 04 AC becomes AC | SR; then 02 HALTED is set". */
    private static void switchesAndHaltComeLast() {
        allDue(07404, 0, 0, "PC=0201");
        allDue(07404, 0, 07777, "AC=07777 PC=0201");
        allDue(07404, 05252, 02525, "AC=07777 PC=0201");
        allDue(07404, 07777, 0, "PC=0201");
        allDue(07404, 07777, 07777, "PC=0201");
        allDue(07404, 05252, 06006, "AC=07256 PC=0201");
        allDue(07604, 05252, 02525, "AC=02525 PC=0201");
        allDue(07604, 05252, 0, "AC=0 PC=0201");
        allDue(07402, 05252, 07777, "PC=0201 HALTED=1");
        allDue(07412, 05252, 07777, "PC=0202 HALTED=1 skips=1");
        allDue(07606, 05252, 1, "AC=1 PC=0201 HALTED=1");
        allDue(07776, 0, 1, "AC=1 PC=0201 HALTED=1");
    }

    private static void exchangeDue(int word, int ac, int mq, int wantAc, int wantMq) {
        String what = "word " + Checks.octal(word) + " with AC " + Checks.octal(ac) + ", MQ " + Checks.octal(mq);
        Setup setup = Setup.at(0200, word).ac(ac).link(1).register(Checks.MQ, mq).register(Checks.SR, 07777);
        CHECKS.stepDue(what, setup, "AC=" + wantAc + " MQ=" + wantMq + " PC=0201");
    }

    /** "0200 AC becomes 0. Then, with 0100 and 020 ..; with 0100 alone ..; with 020 alone ..". */
    private static void secondRegister() {
        int[][] words = {{0, 07777}, {07777, 0}, {05252, 02525}, {05252, 05253}, {0, 0}, {07777, 07777}};
        for (int[] w : words) {
            int ac = w[0];
            int mq = w[1];
            exchangeDue(07401, ac, mq, ac, mq);
            exchangeDue(07601, ac, mq, 0, mq);
            exchangeDue(07521, ac, mq, mq, ac);
            exchangeDue(07721, ac, mq, mq, 0);
            exchangeDue(07501, ac, mq, ac | mq, mq);
            exchangeDue(07701, ac, mq, mq, mq);
            exchangeDue(07421, ac, mq, 0, ac);
            exchangeDue(07621, ac, mq, 0, 0);
        }
    }

    /** "The other bits of w mean nothing here": no condition, no skip, no SR and no halt. */
    private static void otherBitsMeanNothingThere() {
        int[] others = {02, 04, 010, 040, 06, 012, 014, 042, 044, 050, 016, 046, 052, 054, 056};
        for (int bits : others) {
            exchangeDue(07401 + bits, 0, 05252, 0, 05252);
            exchangeDue(07501 + bits, 04000, 1, 04001, 1);
            exchangeDue(07421 + bits, 04000, 1, 0, 04000);
            exchangeDue(07721 + bits, 04000, 1, 1, 0);
        }
    }
}
