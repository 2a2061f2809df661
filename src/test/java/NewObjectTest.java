import java.util.Map;

/** Promise 1: a new object. */
public final class NewObjectTest {
    private static final Checks CHECKS = new Checks();

    public static void main(String[] args) {
        allWordsAreZero();
        allRegistersAreZero();
        nothingIsDone();
        objectsShareNothing();
        allThatCanBeSeenIsNew();
        CHECKS.end();
    }

    private static void allWordsAreZero() {
        TapeMachine machine = new TapeMachine();
        for (int a = 0; a < 4096; a++) {
            // An object answers for 512 calls only.
            if (a % 512 == 0) {
                machine = new TapeMachine();
            }
            CHECKS.due("new, peek " + a, machine.peek(a), 0);
        }
    }

    private static void allRegistersAreZero() {
        TapeMachine machine = new TapeMachine();
        for (int k = 0; k <= 10; k++) {
            CHECKS.due("new, register " + k, machine.register(k), 0);
        }
    }

    private static void nothingIsDone() {
        TapeMachine machine = new TapeMachine();
        CHECKS.due("new, waiting", machine.waiting(), 0);
        CHECKS.due("new, printed(-1)", machine.printed(-1), 0);
        CHECKS.due("new, printed(0)", machine.printed(0), -1);
        CHECKS.due("new, trace(0)", machine.trace(0), -1);
        CHECKS.due("new, interrupts", machine.interrupts(), 0);
        CHECKS.due("new, skips", machine.skips(), 0);
        CHECKS.due("new, go", machine.go(), false);
    }

    private static void objectsShareNothing() {
        TapeMachine used = Checks.loaded(0, 06032, 06001, 06044, 07410, Checks.NOTHING, Checks.HALT);
        used.feed(7);
        used.set(Checks.MQ, 5);
        used.set(Checks.SR, 6);
        used.run(10);
        allRegistersAreZero();
        nothingIsDone();
        CHECKS.due("another object's core", new TapeMachine().peek(0), 0);
    }

    /** "nothing set, not halted; no tape, nothing printed, nothing done", and room for 400 bytes. */
    private static void allThatCanBeSeenIsNew() {
        for (Map.Entry<String, Integer> seen : Whole.after(Setup.fresh(), m -> { }).entrySet()) {
            String name = seen.getKey();
            boolean isNumbered = name.startsWith("printed ") || name.startsWith("trace ");
            int want = isNumbered ? -1 : name.equals("room") ? 400 : 0;
            CHECKS.due("new, " + name, seen.getValue(), want);
            CHECKS.due("new, a byte on the tape", name.startsWith("tape "), false);
        }
    }
}
