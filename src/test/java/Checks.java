/** Counts and prints the calls whose answer is not the one that is due. */
final class Checks {
    static final int AC = 0;
    static final int L = 1;
    static final int PC = 2;
    static final int MQ = 3;
    static final int SR = 4;
    static final int ION = 5;
    static final int DELAY = 6;
    static final int READER_FLAG = 7;
    static final int BUFFER = 8;
    static final int PRINTER_FLAG = 9;
    static final int HALTED = 10;

    static final int HALT = 07402;
    static final int NOTHING = 07000;

    private int wrong = 0;

    /** A machine with these words from address at on, and PC at the first of them. */
    static TapeMachine loaded(int at, int... words) {
        TapeMachine machine = new TapeMachine();
        for (int i = 0; i < words.length; i++) {
            machine.poke((at + i) & 07777, words[i]);
        }
        machine.set(PC, at);
        return machine;
    }

    void due(String call, int got, int want) {
        if (got != want) {
            wrong++;
            System.out.println(call + " answered " + octal(got) + ", due is " + octal(want));
        }
    }

    void due(String call, boolean got, boolean want) {
        if (got != want) {
            wrong++;
            System.out.println(call + " answered " + got + ", due is " + want);
        }
    }

    /** The registers AC, L and PC, which nearly every word changes. */
    void registersDue(String what, TapeMachine machine, int ac, int l, int pc) {
        due(what + ": AC", machine.register(AC), ac);
        due(what + ": L", machine.register(L), l);
        due(what + ": PC", machine.register(PC), pc);
    }

    void end() {
        if (wrong != 0) {
            System.out.println(wrong + " answers are not as due");
            System.exit(1);
        }
    }

    private static String octal(int v) {
        return v < 0 ? Integer.toString(v) : v + " (0" + Integer.toOctalString(v) + ")";
    }
}
