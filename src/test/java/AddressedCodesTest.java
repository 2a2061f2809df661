/** The codes 0 to 5 and their addresses, as run (promise 9) does them. */
public final class AddressedCodesTest {
    private static final Checks CHECKS = new Checks();

    public static void main(String[] args) {
        and();
        tad();
        isz();
        dca();
        jms();
        jmp();
        addresses();
        pointers();
        risingPointers();
        pointerRisesBeforeEachCode();
        wordsThatChangeThemselves();
        CHECKS.end();
    }

    /** One step of the word at 0200, with operand at 0100. */
    private static TapeMachine stepped(int word, int operand, int ac, int l) {
        TapeMachine machine = Checks.loaded(0200, word);
        machine.poke(0100, operand);
        machine.set(Checks.AC, ac);
        machine.set(Checks.L, l);
        machine.run(1);
        return machine;
    }

    private static void and() {
        TapeMachine machine = stepped(00100, 07070, 05555, 1);
        CHECKS.registersDue("AND", machine, 05050, 1, 0201);
        CHECKS.due("AND leaves the word", machine.peek(0100), 07070);
    }

    private static void tad() {
        CHECKS.registersDue("TAD", stepped(01100, 2, 3, 0), 5, 0, 0201);
        CHECKS.registersDue("TAD with L", stepped(01100, 2, 3, 1), 5, 1, 0201);
        CHECKS.registersDue("TAD to 07777", stepped(01100, 07776, 1, 0), 07777, 0, 0201);
        CHECKS.registersDue("TAD to 010000", stepped(01100, 07777, 1, 0), 0, 1, 0201);
        CHECKS.registersDue("TAD to 010000 with L", stepped(01100, 07777, 1, 1), 0, 0, 0201);
        CHECKS.registersDue("TAD of the greatest", stepped(01100, 07777, 07777, 0), 07776, 1, 0201);
        CHECKS.due("TAD leaves the word", stepped(01100, 07777, 1, 0).peek(0100), 07777);
    }

    private static void isz() {
        iszDue(0, 1, 0201);
        iszDue(07776, 07777, 0201);
        iszDue(07777, 0, 0202);
    }

    private static void iszDue(int operand, int want, int pc) {
        TapeMachine machine = stepped(02100, operand, 07, 1);
        CHECKS.due("ISZ of " + operand, machine.peek(0100), want);
        CHECKS.registersDue("ISZ of " + operand, machine, 7, 1, pc);
    }

    private static void dca() {
        TapeMachine machine = stepped(03100, 07, 01234, 1);
        CHECKS.due("DCA's word", machine.peek(0100), 01234);
        CHECKS.registersDue("DCA", machine, 0, 1, 0201);
    }

    private static void jms() {
        TapeMachine machine = stepped(04100, 07, 01234, 1);
        CHECKS.due("JMS's word", machine.peek(0100), 0201);
        CHECKS.registersDue("JMS", machine, 01234, 1, 0101);

        TapeMachine last = Checks.loaded(07600, 04377);
        last.run(1);
        CHECKS.due("JMS to 07777", last.peek(07777), 07601);
        CHECKS.due("JMS to 07777, PC", last.register(Checks.PC), 0);

        TapeMachine wrapped = Checks.loaded(07777, 04100);
        wrapped.run(1);
        CHECKS.due("JMS at 07777", wrapped.peek(0100), 0);
    }

    private static void jmp() {
        CHECKS.registersDue("JMP", stepped(05100, 07, 01234, 1), 01234, 1, 0100);
        TapeMachine self = Checks.loaded(0200, 05200);
        CHECKS.due("JMP to itself", self.run(2000), 2000);
        CHECKS.due("JMP to itself, PC", self.register(Checks.PC), 0200);
        CHECKS.due("a word that jumps is no skip", self.skips(), 0);
    }

    private static void addresses() {
        // With 0200 the page of HERE, also where PC is on the next page already.
        int[][] cases = {
            {0200, 05000, 0}, {0200, 05177, 0177}, {0200, 05200, 0200}, {0200, 05377, 0377},
            {0377, 05200, 0200}, {0377, 05201, 0201}, {07777, 05200, 07600}, {07777, 05377, 07777},
            {0, 05200, 0}, {0177, 05377, 0177}, {05432, 05255, 05455}, {05432, 05055, 055},
        };
        for (int[] c : cases) {
            TapeMachine machine = Checks.loaded(c[0], c[1]);
            machine.run(1);
            CHECKS.due("word " + Integer.toOctalString(c[1]) + " at " + Integer.toOctalString(c[0]),
                    machine.register(Checks.PC), c[2]);
        }
    }

    private static void pointers() {
        TapeMachine machine = Checks.loaded(0200, 01500, 03701, Checks.HALT);
        machine.poke(0100, 07000);
        machine.poke(0301, 06543);
        machine.poke(07000, 012);
        machine.run(10);
        CHECKS.due("TAD and DCA by pointers", machine.peek(06543), 012);
        CHECKS.due("pointer on page 0 stays", machine.peek(0100), 07000);
        CHECKS.due("pointer on its page stays", machine.peek(0301), 06543);

        TapeMachine jump = Checks.loaded(0200, 05500);
        jump.poke(0100, 03210);
        jump.run(1);
        CHECKS.due("JMP by a pointer", jump.register(Checks.PC), 03210);

        TapeMachine call = Checks.loaded(0200, 04500);
        call.poke(0100, 07777);
        call.run(1);
        CHECKS.due("JMS by a pointer", call.peek(07777), 0201);
        CHECKS.due("JMS by a pointer, PC", call.register(Checks.PC), 0);
    }

    private static void risingPointers() {
        for (int a = 0; a <= 040; a++) {
            risingDue(0200, 05400 + a, a, a >= 010 && a <= 017);
        }
        // On page 0, 0200 in the word adds nothing: the same pointers rise.
        risingDue(0100, 05607, 07, false);
        risingDue(0100, 05610, 010, true);
        risingDue(0100, 05617, 017, true);
        risingDue(0100, 05620, 020, false);
        // On another page the same places are no rising pointers.
        risingDue(0300, 05610, 0210, false);
        risingDue(0300, 05617, 0217, false);

        TapeMachine round = Checks.loaded(0200, 01410);
        round.poke(010, 07777);
        round.poke(0, 0123);
        round.run(1);
        CHECKS.due("pointer 0 after 07777", round.peek(010), 0);
        CHECKS.due("the word at 0", round.register(Checks.AC), 0123);
        CHECKS.due("L stays", round.register(Checks.L), 0);
        CHECKS.due("no skip", round.register(Checks.PC), 0201);

        TapeMachine direct = Checks.loaded(0200, 05010);
        direct.poke(010, 0500);
        direct.run(1);
        CHECKS.due("without 0400 nothing rises", direct.peek(010), 0500);
        CHECKS.due("without 0400 E is the address", direct.register(Checks.PC), 010);
    }

    private static void risingDue(int here, int jump, int pointer, boolean rises) {
        TapeMachine machine = Checks.loaded(here, jump);
        machine.poke(pointer, 01000);
        machine.run(1);
        int want = rises ? 01001 : 01000;
        String what = "JMP by pointer " + Integer.toOctalString(pointer);
        CHECKS.due(what + ", PC", machine.register(Checks.PC), want);
        CHECKS.due(what + ", pointer", machine.peek(pointer), want);
    }

    private static void pointerRisesBeforeEachCode() {
        for (int code = 0; code <= 5; code++) {
            TapeMachine machine = Checks.loaded(0200, (code << 9) + 0412);
            machine.poke(012, 0777);
            machine.poke(01000, 07777);
            machine.set(Checks.AC, 0321);
            machine.run(1);
            CHECKS.due("pointer of code " + code, machine.peek(012), 01000);
            int[] words = {07777, 07777, 0, 0321, 0201, 07777};
            CHECKS.due("word of code " + code, machine.peek(01000), words[code]);
            int[] acs = {0321, 0320, 0321, 0, 0321, 0321};
            CHECKS.due("AC of code " + code, machine.register(Checks.AC), acs[code]);
            int[] pcs = {0201, 0201, 0202, 0201, 01001, 01000};
            CHECKS.due("PC of code " + code, machine.register(Checks.PC), pcs[code]);
        }
    }

    private static void wordsThatChangeThemselves() {
        // The word was taken before it is done: 02200 at 0200 raises itself.
        TapeMachine machine = Checks.loaded(0200, 02200);
        machine.run(1);
        CHECKS.due("ISZ of itself", machine.peek(0200), 02201);
        CHECKS.due("ISZ of itself, PC", machine.register(Checks.PC), 0201);

        TapeMachine pointer = Checks.loaded(010, 02410);
        pointer.poke(02411, 5);
        pointer.run(1);
        CHECKS.due("a rising pointer at HERE", pointer.peek(010), 02411);
        CHECKS.due("the word it points to", pointer.peek(02411), 6);

        // A pointer that points to itself when it has risen.
        TapeMachine self = Checks.loaded(0200, 02410);
        self.poke(010, 07);
        self.run(1);
        CHECKS.due("ISZ of its own pointer", self.peek(010), 011);
    }
}
