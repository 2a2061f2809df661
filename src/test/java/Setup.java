import java.util.ArrayList;
import java.util.List;
import java.util.function.Consumer;

/**
 * A machine's state as the calls that lead to it. One object answers for 512 calls only, so that a
 * test that looks at all of a state needs the same state on several objects.
 */
final class Setup {
    private final List<Consumer<TapeMachine>> calls = new ArrayList<>();

    static Setup fresh() {
        return new Setup();
    }

    /** These words from address pc on, and PC at the first of them. */
    static Setup at(int pc, int... words) {
        Setup setup = new Setup();
        for (int i = 0; i < words.length; i++) {
            setup.word((pc + i) & 07777, words[i]);
        }
        return setup.pc(pc);
    }

    /**
     * Something everywhere: ION, DELAY and both flags are set, bytes are read, on the tape and
     * printed, and there were an interrupt and a skip. The next step is interrupted.
     */
    static Setup busy() {
        return at(0200, 06001, 07001, 06046, 07410, 0, 06032, 06046, 06001, 06001)
                .word(1, 06042).word(2, 05400).word(07777, 02525)
                .fed(0123, 0321, 0377).ran(10)
                .ac(01234).link(1).register(Checks.MQ, 04567).register(Checks.SR, 07654);
    }

    /** As busy, and halted with the next interrupt due. */
    static Setup halted() {
        return busy().word(1, Checks.HALT).ran(1);
    }

    /** All of 400 bytes fed, and so many of them read. */
    static Setup full(int read) {
        return at(0, 06032, 05000).fedBytes(400).ran(2 * read);
    }

    Setup then(Consumer<TapeMachine> call) {
        calls.add(call);
        return this;
    }

    Setup word(int a, int w) {
        return then(m -> m.poke(a, w));
    }

    Setup register(int k, int v) {
        return then(m -> m.set(k, v));
    }

    Setup ac(int v) {
        return register(Checks.AC, v);
    }

    Setup link(int v) {
        return register(Checks.L, v);
    }

    Setup pc(int v) {
        return register(Checks.PC, v);
    }

    Setup fed(int... bytes) {
        for (int b : bytes) {
            then(m -> m.feed(b));
        }
        return this;
    }

    /** So many bytes, of which two that lie near one another differ. */
    Setup fedBytes(int number) {
        for (int i = 0; i < number; i++) {
            fed(i % 251);
        }
        return this;
    }

    Setup ran(int steps) {
        return then(m -> m.run(steps));
    }

    TapeMachine make() {
        TapeMachine machine = new TapeMachine();
        for (Consumer<TapeMachine> call : calls) {
            call.accept(machine);
        }
        return machine;
    }
}
