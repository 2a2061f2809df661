/** Promise 13: skips. */
public final class SkipsTest {
    private static final Checks CHECKS = new Checks();

    public static void main(String[] args) {
        skipsAreCounted();
        otherJumpsAreNone();
        everyKindCounts();
        CHECKS.end();
    }

    private static void skipsAreCounted() {
        TapeMachine machine = Checks.loaded(0, 07410, 05000, 05000);
        machine.run(1);
        CHECKS.due("one skip", machine.skips(), 1);
        machine.run(1);
        CHECKS.due("a jump", machine.skips(), 1);
        machine.run(2);
        CHECKS.due("two skips", machine.skips(), 2);
        machine.run(2000);
        CHECKS.due("many skips", machine.skips(), 1002);
    }

    private static void otherJumpsAreNone() {
        // A jump and a call to the word behind the next one are no skips.
        TapeMachine machine = Checks.loaded(0200, 05202, Checks.NOTHING, 04204, Checks.NOTHING, 0, Checks.HALT);
        machine.set(Checks.AC, 1);
        CHECKS.due("run", machine.run(10), 3);
        CHECKS.due("no skips", machine.skips(), 0);
    }

    private static void everyKindCounts() {
        skipDue("ISZ to 0", 02100, 07777, 0, 1);
        skipDue("ISZ to 1", 02100, 0, 0, 0);
        skipDue("reader's flag", 06031, 0, 0, 0);
        skipDue("printer's flag", 06041, 0, 0, 0);
        skipDue("07500 on a negative AC", 07500, 0, 04000, 1);
        skipDue("07500 on a positive AC", 07500, 0, 03777, 0);
        skipDue("all conditions at once", 07560, 0, 0, 1);
        skipDue("07400", 07400, 0, 0, 0);

        TapeMachine machine = Checks.loaded(0200, 06032, 06044, 06031, Checks.HALT, 06041, Checks.HALT, Checks.HALT);
        machine.feed(1);
        CHECKS.due("run over both flags", machine.run(10), 5);
        CHECKS.due("skips by flags", machine.skips(), 2);
    }

    private static void skipDue(String what, int word, int at100, int ac, int want) {
        TapeMachine machine = Checks.loaded(0200, word);
        machine.poke(0100, at100);
        machine.set(Checks.AC, ac);
        machine.run(1);
        CHECKS.due(what + ", skips", machine.skips(), want);
        CHECKS.due(what + ", PC", machine.register(Checks.PC), 0201 + want);
    }
}
