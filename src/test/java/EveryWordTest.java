import java.util.ArrayList;
import java.util.List;
import java.util.Random;

/**
 * Each of the 4096 words, done once at each of some places and in states by a fixed seed, on the
 * program and on the model: all registers, counts and words of the core are looked at.
 */
public final class EveryWordTest {
    private static final Checks CHECKS = new Checks();
    private static final int[] PLACES = {0, 010, 0177, 0200, 03654, 07777};
    private static final int STATES = 2;
    private static final int LOOKS_A_MACHINE = 450;
    private static final int[] WORDS = {0, 1, 010, 017, 03777, 04000, 05252, 07776, 07777};

    private enum Kind { FEED, POKE, SET, RUN }

    private record Call(Kind kind, int first, int second) {
    }

    private final Random random;
    private final List<Call> calls = new ArrayList<>();
    private final String what;

    private EveryWordTest(int word, int place, int state) {
        random = new Random(word * 1000L + place * 10L + state);
        what = "word 0" + Integer.toOctalString(word) + " at 0" + Integer.toOctalString(place) + ", state " + state;
        flags();
        operands(word, place);
        for (int k = 0; k <= 4; k++) {
            calls.add(new Call(Kind.SET, k, k == 2 ? place : anyWord()));
        }
        calls.add(new Call(Kind.POKE, place, word));
        // A step that is interrupted does the word at 1.
        calls.add(new Call(Kind.POKE, 1, word));
        calls.add(new Call(Kind.RUN, 1, 0));
    }

    public static void main(String[] args) {
        for (int word = 0; word <= 07777; word++) {
            for (int place : PLACES) {
                for (int state = 0; state < STATES; state++) {
                    new EveryWordTest(word, place, state).sameOnBoth();
                }
            }
            // One word that goes apart tells enough: the rest would bury it.
            CHECKS.end();
        }
    }

    /** Any state of the flags, ION and DELAY, with some bytes read and some on the tape or none. */
    private void flags() {
        for (int left = random.nextInt(4); left > 0; left--) {
            calls.add(new Call(Kind.FEED, random.nextInt(256), 0));
        }
        int[] program = {06032, 06046, 06001, 06001};
        for (int i = 0; i < program.length; i++) {
            calls.add(new Call(Kind.POKE, 05000 + i, random.nextBoolean() ? program[i] : Checks.NOTHING));
        }
        calls.add(new Call(Kind.SET, 0, anyWord()));
        calls.add(new Call(Kind.SET, 2, 05000));
        calls.add(new Call(Kind.RUN, program.length, 0));
    }

    /** Something at both addresses that the word may mean, and where they point. */
    private void operands(int word, int place) {
        int offset = word & 0177;
        int[] addresses = {offset, (place & 07600) + offset};
        for (int address : addresses) {
            int pointer = anyWord();
            calls.add(new Call(Kind.POKE, pointer, anyWord()));
            calls.add(new Call(Kind.POKE, (pointer + 1) & 07777, anyWord()));
            calls.add(new Call(Kind.POKE, address, pointer));
        }
    }

    private int anyWord() {
        return random.nextBoolean() ? WORDS[random.nextInt(WORDS.length)] : random.nextInt(010000);
    }

    private void sameOnBoth() {
        Model model = new Model();
        for (Call call : calls) {
            does(model, call);
        }
        registersAndCounts(made(), model);
        for (int from = 0; from <= 07777; from += LOOKS_A_MACHINE) {
            TapeMachine machine = made();
            for (int a = from; a < Math.min(from + LOOKS_A_MACHINE, 010000); a++) {
                if (machine.peek(a) != model.peek(a)) {
                    CHECKS.due(what + ": the word at 0" + Integer.toOctalString(a), machine.peek(a), model.peek(a));
                }
            }
        }
    }

    private void registersAndCounts(TapeMachine machine, Model model) {
        for (int k = 0; k <= 10; k++) {
            CHECKS.due(what + ": register " + k, machine.register(k), model.register(k));
        }
        CHECKS.due(what + ": waiting", machine.waiting(), model.waiting());
        CHECKS.due(what + ": interrupts", machine.interrupts(), model.interrupts());
        CHECKS.due(what + ": skips", machine.skips(), model.skips());
        for (int k = -1; k <= 6; k++) {
            CHECKS.due(what + ": printed " + k, machine.printed(k), model.printed(k));
            CHECKS.due(what + ": trace " + k, machine.trace(k), model.trace(k));
        }
    }

    private TapeMachine made() {
        TapeMachine machine = new TapeMachine();
        for (Call call : calls) {
            does(machine, call);
        }
        return machine;
    }

    private static void does(TapeMachine machine, Call call) {
        switch (call.kind) {
            case FEED:
                machine.feed(call.first);
                break;
            case POKE:
                machine.poke(call.first, call.second);
                break;
            case SET:
                machine.set(call.first, call.second);
                break;
            default:
                machine.run(call.first);
                break;
        }
    }

    private static void does(Model model, Call call) {
        switch (call.kind) {
            case FEED:
                model.feed(call.first);
                break;
            case POKE:
                model.poke(call.first, call.second);
                break;
            case SET:
                model.set(call.first, call.second);
                break;
            default:
                model.run(call.first);
                break;
        }
    }
}
