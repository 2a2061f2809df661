import java.util.ArrayList;
import java.util.LinkedHashMap;
import java.util.List;
import java.util.Map;
import java.util.function.Consumer;
import java.util.function.ToIntFunction;

/** All that can be seen of a machine, by name: "AC", "@0200" (a word), "tape 0", "trace 0" and so on. */
final class Whole {
    /** A setup may have used most of an object's 512 calls. */
    private static final int LOOKS_A_MACHINE = 64;
    private static final String[] REGISTERS = {
        "AC", "L", "PC", "MQ", "SR", "ION", "DELAY", "RFLAG", "BUFFER", "PFLAG", "HALTED",
    };
    private static final List<Look> LOOKS = looks();

    private record Look(String name, ToIntFunction<TapeMachine> at) {
    }

    private Whole() {
    }

    static Map<String, Integer> after(Setup setup, Consumer<TapeMachine> call) {
        Map<String, Integer> all = new LinkedHashMap<>();
        for (int from = 0; from < LOOKS.size(); from += LOOKS_A_MACHINE) {
            TapeMachine machine = made(setup, call);
            for (Look look : LOOKS.subList(from, Math.min(from + LOOKS_A_MACHINE, LOOKS.size()))) {
                all.put(look.name, look.at.applyAsInt(machine));
            }
        }
        putTape(all, setup, call);
        all.put("room", room(made(setup, call)));
        return all;
    }

    static String word(int a) {
        return a == 0 ? "@0" : "@0" + Integer.toOctalString(a);
    }

    private static TapeMachine made(Setup setup, Consumer<TapeMachine> call) {
        TapeMachine machine = setup.make();
        call.accept(machine);
        return machine;
    }

    private static List<Look> looks() {
        List<Look> looks = new ArrayList<>();
        for (int k = 0; k < REGISTERS.length; k++) {
            int number = k;
            looks.add(new Look(REGISTERS[k], m -> m.register(number)));
        }
        looks.add(new Look("waiting", TapeMachine::waiting));
        looks.add(new Look("interrupts", TapeMachine::interrupts));
        looks.add(new Look("skips", TapeMachine::skips));
        looks.add(new Look("prints", m -> m.printed(-1)));
        for (int k = 0; k < 64; k++) {
            int number = k;
            looks.add(new Look("printed " + k, m -> m.printed(number)));
            looks.add(new Look("trace " + k, m -> m.trace(number)));
        }
        for (int a = 0; a < 4096; a++) {
            int address = a;
            looks.add(new Look(word(a), m -> m.peek(address)));
        }
        return looks;
    }

    /** The bytes on the tape, which a program has to read and keep, as no call tells them. */
    private static void putTape(Map<String, Integer> all, Setup setup, Consumer<TapeMachine> call) {
        int bytes = made(setup, call).waiting();
        for (int from = 0; from < bytes; from += LOOKS_A_MACHINE) {
            TapeMachine machine = made(setup, call);
            keepTape(machine);
            for (int i = from; i < Math.min(from + LOOKS_A_MACHINE, bytes); i++) {
                all.put("tape " + i, machine.peek(01000 + i));
            }
        }
    }

    /** Reads the tape into the words from 01000 on. */
    private static void keepTape(TapeMachine machine) {
        // From 1 on, so that an interrupt that is due in the first step comes to the same place.
        int[] program = {06002, 06032, 06034, 03410, 05002};
        for (int i = 0; i < program.length; i++) {
            machine.poke(1 + i, program[i]);
        }
        machine.poke(010, 0777);
        machine.set(Checks.PC, 1);
        machine.go();
        machine.run(2000);
    }

    /** How many bytes more are taken. */
    private static int room(TapeMachine machine) {
        int taken = 0;
        while (taken <= 400 && machine.feed(7)) {
            taken++;
        }
        return taken;
    }
}
