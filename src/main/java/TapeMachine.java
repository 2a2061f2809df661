/**
 * A machine of 12-bit words with an accumulator and a second register, a paper tape reader, a
 * printer and interrupts. Numbers that begin with 0 are octal, as in the document.
 */
public final class TapeMachine {
    private static final int WORD = 07777;
    private static final int CORE_SIZE = 010000;
    private static final int OFFSET = 0177;
    private static final int PAGE = 07600;
    private static final int TURN_BITS = 13;
    private static final int TURN_MASK = 017777;
    private static final int BYTE = 0377;
    private static final int TAPE_LIMIT = 400;
    private static final int RUN_LIMIT = 2000;
    /** A power of two, so that RECENT_LIMIT - 1 masks any count into the row. */
    private static final int RECENT_LIMIT = 64;

    private final int[] core;
    private final Reader reader;
    private final Recent prints;
    private final Recent steps;
    private int ac;
    private int link;
    private int pc;
    private int mq;
    private int sr;
    private boolean halted;
    private boolean ion;
    private boolean delay;
    private boolean printerFlag;
    private int interruptCount;
    private int skipCount;

    public TapeMachine() {
        core = new int[CORE_SIZE];
        reader = new Reader();
        prints = new Recent();
        steps = new Recent();
    }

    public boolean feed(int b) {
        return reader.append(b);
    }

    public int waiting() {
        return reader.unread();
    }

    public int poke(int a, int w) {
        if (!isAddress(a)) {
            return -1;
        }
        int old = wordAt(a);
        putWord(a, w);
        return old;
    }

    public int peek(int a) {
        return isAddress(a) ? wordAt(a) : -1;
    }

    public boolean set(int k, int v) {
        switch (k) {
            case 0:
                ac = v & WORD;
                return true;
            case 1:
                link = v & 1;
                return true;
            case 2:
                pc = v & WORD;
                return true;
            case 3:
                mq = v & WORD;
                return true;
            case 4:
                sr = v & WORD;
                return true;
            default:
                return false;
        }
    }

    public int register(int k) {
        switch (k) {
            case 0:
                return ac;
            case 1:
                return link;
            case 2:
                return pc;
            case 3:
                return mq;
            case 4:
                return sr;
            case 5:
                return bit(ion);
            case 6:
                return bit(delay);
            case 7:
                return bit(reader.flag);
            case 8:
                return reader.buffer;
            case 9:
                return bit(printerFlag);
            case 10:
                return bit(halted);
            default:
                return -1;
        }
    }

    public boolean go() {
        boolean was = halted;
        halted = false;
        return was;
    }

    public int run(int n) {
        if (n < 0 || n > RUN_LIMIT) {
            return 0;
        }
        int made = 0;
        while (made < n && !halted) {
            step();
            made++;
        }
        return made;
    }

    public int printed(int k) {
        return k == -1 ? prints.count : prints.fromLatest(k);
    }

    public int trace(int k) {
        return steps.fromLatest(k);
    }

    public int interrupts() {
        return interruptCount;
    }

    public int skips() {
        return skipCount;
    }

    private static boolean isAddress(int a) {
        return a >= 0 && a < CORE_SIZE;
    }

    private static int bit(boolean b) {
        return b ? 1 : 0;
    }

    private static boolean has(int w, int bits) {
        return (w & bits) != 0;
    }

    private static int next(int word) {
        return (word + 1) & WORD;
    }

    private int wordAt(int a) {
        return core[a & WORD];
    }

    private void putWord(int a, int w) {
        core[a & WORD] = w & WORD;
    }

    private void skipIf(boolean holds) {
        if (holds) {
            pc = next(pc);
            skipCount++;
        }
    }

    private void step() {
        // The interrupt comes before DELAY, so that one step lies between 06001 and the first interrupt.
        if (ion && (reader.flag || printerFlag)) {
            interrupt();
        }
        if (delay) {
            delay = false;
            ion = true;
        }
        int here = pc;
        int w = wordAt(here);
        steps.add(here);
        pc = next(here);
        perform(w, here);
    }

    private void interrupt() {
        putWord(0, pc);
        pc = 1;
        ion = false;
        interruptCount++;
    }

    private void perform(int w, int here) {
        int code = w >> 9;
        if (code < 6) {
            performAddressed(code, effectiveAddress(w, here));
        } else if (code == 6) {
            performDevice(w);
        } else if (!has(w, 0400)) {
            changeAccumulator(w);
        } else if (!has(w, 01)) {
            testAccumulator(w);
        } else {
            exchangeWithMq(w);
        }
    }

    private int effectiveAddress(int w, int here) {
        int a = w & OFFSET;
        if (has(w, 0200)) {
            a += here & PAGE;
        }
        if (!has(w, 0400)) {
            return a;
        }
        if (a >= 010 && a <= 017) {
            putWord(a, next(wordAt(a)));
        }
        return wordAt(a);
    }

    private void performAddressed(int code, int e) {
        switch (code) {
            case 0:
                ac &= wordAt(e);
                break;
            case 1:
                add(wordAt(e));
                break;
            case 2:
                putWord(e, next(wordAt(e)));
                skipIf(wordAt(e) == 0);
                break;
            case 3:
                putWord(e, ac);
                ac = 0;
                break;
            case 4:
                putWord(e, pc);
                pc = next(e);
                break;
            default:
                pc = e;
                break;
        }
    }

    private void add(int word) {
        int sum = ac + word;
        if (sum > WORD) {
            link ^= 1;
        }
        ac = sum & WORD;
    }

    private void performDevice(int w) {
        switch (w) {
            case 06001:
                delay = true;
                break;
            case 06002:
                ion = false;
                delay = false;
                break;
            case 06030:
                reader.flag = false;
                break;
            case 06031:
                skipIf(reader.flag);
                break;
            case 06032:
                ac = 0;
                reader.restart();
                break;
            case 06034:
                ac |= reader.buffer;
                break;
            case 06036:
                // AC gets the byte read before: the advance brings the next one.
                ac = reader.buffer;
                reader.restart();
                break;
            case 06041:
                skipIf(printerFlag);
                break;
            case 06042:
                printerFlag = false;
                break;
            case 06044:
            case 06046:
                prints.add(ac & BYTE);
                printerFlag = true;
                break;
            default:
                break;
        }
    }

    private void changeAccumulator(int w) {
        if (has(w, 0200)) {
            ac = 0;
        }
        if (has(w, 0100)) {
            link = 0;
        }
        if (has(w, 040)) {
            ac ^= WORD;
        }
        if (has(w, 020)) {
            link ^= 1;
        }
        if (has(w, 01)) {
            add(1);
        }
        int places = has(w, 02) ? 2 : 1;
        boolean left = has(w, 04);
        boolean right = has(w, 010);
        if (left && !right) {
            turnLeft(places);
        } else if (right && !left) {
            turnLeft(TURN_BITS - places);
        }
    }

    private void turnLeft(int places) {
        int both = (link << 12) | ac;
        int turned = ((both << places) | (both >> (TURN_BITS - places))) & TURN_MASK;
        link = turned >> 12;
        ac = turned & WORD;
    }

    private void testAccumulator(int w) {
        boolean holds = (has(w, 0100) && ac >= 04000)
                || (has(w, 040) && ac == 0)
                || (has(w, 020) && link == 1);
        skipIf(holds != has(w, 010));
        if (has(w, 0200)) {
            ac = 0;
        }
        if (has(w, 04)) {
            ac |= sr;
        }
        if (has(w, 02)) {
            halted = true;
        }
    }

    private void exchangeWithMq(int w) {
        if (has(w, 0200)) {
            ac = 0;
        }
        boolean toAc = has(w, 0100);
        boolean toMq = has(w, 020);
        int oldMq = mq;
        if (toMq) {
            mq = ac;
            ac = 0;
        }
        // With both, AC is 0 by now, so that the OR makes the exchange.
        if (toAc) {
            ac |= oldMq;
        }
    }

    /** The paper tape and the reader's buffer and flag. */
    private static final class Reader {
        private final int[] tape = new int[TAPE_LIMIT];
        private int fed;
        private int taken;
        private int buffer;
        private boolean flag;

        private boolean append(int b) {
            if (b < 0 || b > BYTE || fed >= TAPE_LIMIT) {
                return false;
            }
            tape[fed] = b;
            fed++;
            return true;
        }

        private int unread() {
            return fed - taken;
        }

        private void restart() {
            flag = false;
            // The row is never used round again: fed stays within it, and so does what is below fed.
            if (taken < fed) {
                buffer = tape[taken];
                taken++;
                flag = true;
            }
        }
    }

    /** The latest numbers of a sequence, and how many there were in all. */
    private static final class Recent {
        private final int[] row = new int[RECENT_LIMIT];
        private int count;

        private void add(int value) {
            row[count & (RECENT_LIMIT - 1)] = value;
            count++;
        }

        private int fromLatest(int k) {
            if (k < 0 || k >= RECENT_LIMIT || k >= count) {
                return -1;
            }
            return row[(count - 1 - k) & (RECENT_LIMIT - 1)];
        }
    }
}
