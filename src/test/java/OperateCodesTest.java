/** Code 7, as run (promise 9) does it. */
public final class OperateCodesTest {
    private static final Checks CHECKS = new Checks();

    public static void main(String[] args) {
        changes();
        turns();
        conditions();
        switchesAndHalt();
        secondRegister();
        CHECKS.end();
    }

    private static TapeMachine stepped(int word, int ac, int l) {
        TapeMachine machine = Checks.loaded(0200, word);
        machine.set(Checks.AC, ac);
        machine.set(Checks.L, l);
        machine.run(1);
        return machine;
    }

    private static void wordDue(int word, int ac, int l, int wantAc, int wantL) {
        String what = "word " + Integer.toOctalString(word) + " with AC " + Integer.toOctalString(ac) + " L " + l;
        TapeMachine machine = stepped(word, ac, l);
        CHECKS.registersDue(what, machine, wantAc, wantL, 0201);
        CHECKS.due(what + ", HALTED", machine.register(Checks.HALTED), 0);
        CHECKS.due(what + ", MQ", machine.register(Checks.MQ), 0);
    }

    private static void changes() {
        wordDue(07000, 01234, 1, 01234, 1);
        wordDue(07200, 01234, 1, 0, 1);
        wordDue(07100, 01234, 1, 01234, 0);
        wordDue(07040, 01234, 1, 06543, 1);
        wordDue(07020, 01234, 1, 01234, 0);
        wordDue(07020, 01234, 0, 01234, 1);
        wordDue(07001, 01234, 0, 01235, 0);
        wordDue(07001, 07777, 0, 0, 1);
        wordDue(07001, 07777, 1, 0, 0);
        // The order: 0 first, then the change of all bits, then one more.
        wordDue(07240, 01234, 0, 07777, 0);
        wordDue(07041, 1, 0, 07777, 0);
        wordDue(07041, 0, 0, 0, 1);
        wordDue(07201, 07777, 0, 1, 0);
        wordDue(07120, 0, 1, 0, 1);
        wordDue(07120, 0, 0, 0, 1);
        wordDue(07101, 07777, 1, 0, 1);
        wordDue(07121, 07777, 1, 0, 0);
        wordDue(07361, 01234, 1, 0, 0);
        // The turn comes last.
        wordDue(07005, 07777, 0, 1, 0);
        wordDue(07011, 07777, 0, 04000, 0);
        wordDue(07204, 07777, 1, 1, 0);
        wordDue(07124, 0, 0, 1, 0);
        wordDue(07104, 04000, 1, 0, 1);
        wordDue(07207, 01234, 0, 4, 0);
    }

    private static void turns() {
        wordDue(07004, 04001, 0, 2, 1);
        wordDue(07004, 02001, 1, 04003, 0);
        wordDue(07010, 04001, 0, 02000, 1);
        wordDue(07010, 02000, 1, 05000, 0);
        wordDue(07006, 06001, 0, 5, 1);
        wordDue(07006, 04001, 0, 5, 0);
        wordDue(07006, 00001, 1, 6, 0);
        wordDue(07012, 00001, 0, 04000, 0);
        wordDue(07012, 00002, 0, 0, 1);
        wordDue(07012, 00003, 1, 06000, 1);
        wordDue(07012, 04000, 1, 03000, 0);
        wordDue(07002, 01234, 1, 01234, 1);
        wordDue(07014, 01234, 1, 01234, 1);
        wordDue(07016, 01234, 1, 01234, 1);
        thirteenTurnsComeRound(07004);
        thirteenTurnsComeRound(07010);
        thirteenTurnsComeRound(07006);
        thirteenTurnsComeRound(07012);
    }

    private static void thirteenTurnsComeRound(int word) {
        TapeMachine machine = Checks.loaded(0, word, 05000);
        machine.set(Checks.AC, 02351);
        machine.set(Checks.L, 1);
        machine.run(2 * 13);
        CHECKS.registersDue("13 turns by " + Integer.toOctalString(word), machine, 02351, 1, 0);
    }

    private static void skipDue(int word, int ac, int l, boolean skips) {
        String what = "word " + Integer.toOctalString(word) + " with AC " + Integer.toOctalString(ac) + " L " + l;
        TapeMachine machine = stepped(word, ac, l);
        int wantAc = (word & 0200) != 0 ? 0 : ac;
        CHECKS.registersDue(what, machine, wantAc, l, skips ? 0202 : 0201);
        CHECKS.due(what + ", skips", machine.skips(), skips ? 1 : 0);
    }

    private static void conditions() {
        int[] acs = {0, 1, 03777, 04000, 07777};
        for (int ac : acs) {
            for (int l = 0; l <= 1; l++) {
                boolean negative = ac >= 04000;
                boolean zero = ac == 0;
                boolean link = l == 1;
                // 0200 comes after the condition is looked at.
                for (int clear = 0; clear <= 0200; clear += 0200) {
                    skipDue(07400 + clear, ac, l, false);
                    skipDue(07410 + clear, ac, l, true);
                    skipDue(07500 + clear, ac, l, negative);
                    skipDue(07510 + clear, ac, l, !negative);
                    skipDue(07440 + clear, ac, l, zero);
                    skipDue(07450 + clear, ac, l, !zero);
                    skipDue(07420 + clear, ac, l, link);
                    skipDue(07430 + clear, ac, l, !link);
                    skipDue(07540 + clear, ac, l, negative || zero);
                    skipDue(07550 + clear, ac, l, !negative && !zero);
                    skipDue(07520 + clear, ac, l, negative || link);
                    skipDue(07530 + clear, ac, l, !negative && !link);
                    skipDue(07460 + clear, ac, l, zero || link);
                    skipDue(07470 + clear, ac, l, !zero && !link);
                    skipDue(07560 + clear, ac, l, negative || zero || link);
                    skipDue(07570 + clear, ac, l, !negative && !zero && !link);
                }
            }
        }
    }

    private static void switchesDue(int word, int ac, int wantAc, int pc, int halted) {
        TapeMachine machine = Checks.loaded(0200, word);
        machine.set(Checks.AC, ac);
        machine.set(Checks.SR, 05252);
        machine.run(1);
        String what = "word " + Integer.toOctalString(word) + " with SR";
        CHECKS.registersDue(what, machine, wantAc, 0, pc);
        CHECKS.due(what + ", HALTED", machine.register(Checks.HALTED), halted);
        CHECKS.due(what + ", SR", machine.register(Checks.SR), 05252);
    }

    private static void switchesAndHalt() {
        switchesDue(07404, 0123, 05373, 0201, 0);
        switchesDue(07604, 0123, 05252, 0201, 0);
        switchesDue(07402, 0123, 0123, 0201, 1);
        switchesDue(07606, 0123, 05252, 0201, 1);
        // The condition is looked at before SR comes in; the halt is last and skips too.
        switchesDue(07504, 0123, 05373, 0201, 0);
        switchesDue(07446, 0, 05252, 0202, 1);
        switchesDue(07456, 0, 05252, 0201, 1);
        switchesDue(07412, 0123, 0123, 0202, 1);
        switchesDue(07700, 0123, 0, 0201, 0);
    }

    private static void mqDue(int word, int ac, int mq, int wantAc, int wantMq) {
        TapeMachine machine = Checks.loaded(0200, word);
        machine.set(Checks.AC, ac);
        machine.set(Checks.MQ, mq);
        machine.set(Checks.L, 1);
        machine.set(Checks.SR, 07777);
        machine.run(1);
        String what = "word " + Integer.toOctalString(word) + " with MQ " + Integer.toOctalString(mq);
        CHECKS.registersDue(what, machine, wantAc, 1, 0201);
        CHECKS.due(what + ", MQ", machine.register(Checks.MQ), wantMq);
        CHECKS.due(what + ", HALTED", machine.register(Checks.HALTED), 0);
        CHECKS.due(what + ", skips", machine.skips(), 0);
    }

    private static void secondRegister() {
        // The bits 040, 010, 04 and 02 mean nothing here, alone or together.
        for (int free = 0; free <= 056; free++) {
            if ((free & ~056) == 0) {
                mqDue(07401 + free, 0123, 04560, 0123, 04560);
                mqDue(07601 + free, 0123, 04560, 0, 04560);
                mqDue(07501 + free, 0123, 04561, 04563, 04561);
                mqDue(07701 + free, 0123, 04561, 04561, 04561);
                mqDue(07421 + free, 0123, 04560, 0, 0123);
                mqDue(07621 + free, 0123, 04560, 0, 0);
                mqDue(07521 + free, 0123, 04560, 04560, 0123);
                mqDue(07721 + free, 0123, 04560, 04560, 0);
            }
        }
        // AC is 0 and negative, so that a condition would hold.
        mqDue(07541, 0, 0, 0, 0);
        mqDue(07411, 04000, 0, 04000, 0);
    }
}
