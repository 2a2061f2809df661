import java.util.LinkedHashMap;
import java.util.Map;
import java.util.TreeSet;
import java.util.function.Consumer;

/** Counts and prints the calls whose answer is not the one that is due. */
final class Checks {
    static final int AC = 0;
    static final int L = 1;
    static final int PC = 2;
    static final int MQ = 3;
    static final int SR = 4;
    static final int ION = 5;
    static final int DELAY = 6;
    static final int READER_FLAG = 7;
    static final int BUFFER = 8;
    static final int PRINTER_FLAG = 9;
    static final int HALTED = 10;

    static final int HALT = 07402;
    static final int NOTHING = 07000;

    private int wrong = 0;

    /** A machine with these words from address at on, and PC at the first of them. */
    static TapeMachine loaded(int at, int... words) {
        return Setup.at(at, words).make();
    }

    static String octal(int v) {
        return v < 8 ? Integer.toString(v) : v + " (0" + Integer.toOctalString(v) + ")";
    }

    void due(String call, int got, int want) {
        if (got != want) {
            wrong++;
            System.out.println(call + " answered " + octal(got) + ", due is " + octal(want));
        }
    }

    void due(String call, boolean got, boolean want) {
        if (got != want) {
            wrong++;
            System.out.println(call + " answered " + got + ", due is " + want);
        }
    }

    /** The registers AC, L and PC, which nearly every word changes. */
    void registersDue(String what, TapeMachine machine, int ac, int l, int pc) {
        due(what + ": AC", machine.register(AC), ac);
        due(what + ": L", machine.register(L), l);
        due(what + ": PC", machine.register(PC), pc);
    }

    /** The call leaves all as it was. */
    void nothingChanges(String what, Setup setup, Consumer<TapeMachine> call) {
        changesDue(what, setup, call, "");
    }

    /** The call makes these changes, written as in "AC=05 @0100=07777", and no other. */
    void changesDue(String what, Setup setup, Consumer<TapeMachine> call, String changes) {
        Map<String, Integer> want = Whole.after(setup, m -> { });
        want.putAll(parsed(changes));
        wholeDue(what, Whole.after(setup, call), want);
    }

    /** One step makes these changes and no other, but that its HERE comes to the trace. */
    void stepDue(String what, Setup setup, String changes) {
        Map<String, Integer> before = Whole.after(setup, m -> { });
        Map<String, Integer> want = new LinkedHashMap<>(before);
        want.putAll(parsed(changes));
        boolean interrupted = !want.get("interrupts").equals(before.get("interrupts"));
        want.put("trace 0", interrupted ? 1 : before.get("PC"));
        for (int k = 1; k < 64; k++) {
            want.put("trace " + k, before.get("trace " + (k - 1)));
        }
        due(what + ", run(1)", setup.make().run(1), 1);
        wholeDue(what, Whole.after(setup, m -> m.run(1)), want);
    }

    void end() {
        if (wrong != 0) {
            System.out.println(wrong + " answers are not as due");
            System.exit(1);
        }
    }

    private void wholeDue(String what, Map<String, Integer> got, Map<String, Integer> want) {
        TreeSet<String> names = new TreeSet<>(got.keySet());
        names.addAll(want.keySet());
        for (String name : names) {
            // -2 is no answer of any call: it stands for a byte that is not on the tape.
            due(what + ": " + name, got.getOrDefault(name, -2), want.getOrDefault(name, -2));
        }
    }

    private static Map<String, Integer> parsed(String changes) {
        Map<String, Integer> map = new LinkedHashMap<>();
        for (String change : changes.trim().split(" +")) {
            if (!change.isEmpty()) {
                int sign = change.indexOf('=');
                map.put(change.substring(0, sign).replace('_', ' '), Integer.decode(change.substring(sign + 1)));
            }
        }
        return map;
    }
}
