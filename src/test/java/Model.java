import java.util.ArrayDeque;
import java.util.ArrayList;
import java.util.Deque;
import java.util.List;

/**
 * The document told a second time, without an eye to speed or room, for ModelTest: L and AC are
 * one number of 13 bits here, all that is printed or traced is kept, and words are taken apart by
 * their bits' names.
 */
final class Model {
    private final int[] core = new int[4096];
    private final Deque<Integer> tape = new ArrayDeque<>();
    private final List<Integer> printedBytes = new ArrayList<>();
    private final List<Integer> heres = new ArrayList<>();
    private int fedBytes;
    private int linkAndAc;
    private int pc;
    private int mq;
    private int sr;
    private int ion;
    private int delay;
    private int readerFlag;
    private int buffer;
    private int printerFlag;
    private int halted;
    private int interruptsMade;
    private int skipsMade;

    boolean feed(int b) {
        if (b < 0 || b >= 256 || fedBytes == 400) {
            return false;
        }
        fedBytes++;
        tape.addLast(b);
        return true;
    }

    int waiting() {
        return tape.size();
    }

    int poke(int a, int w) {
        int old = peek(a);
        if (old != -1) {
            core[a] = Math.floorMod(w, 4096);
        }
        return old;
    }

    int peek(int a) {
        return a < 0 || a > 4095 ? -1 : core[a];
    }

    boolean set(int k, int v) {
        int word = Math.floorMod(v, 4096);
        if (k == 0) {
            setAc(word);
        } else if (k == 1) {
            setLink(Math.floorMod(v, 2));
        } else if (k == 2) {
            pc = word;
        } else if (k == 3) {
            mq = word;
        } else if (k == 4) {
            sr = word;
        }
        return k >= 0 && k < 5;
    }

    int register(int k) {
        int[] all = {ac(), link(), pc, mq, sr, ion, delay, readerFlag, buffer, printerFlag, halted};
        return k < 0 || k >= all.length ? -1 : all[k];
    }

    boolean go() {
        boolean was = halted == 1;
        halted = 0;
        return was;
    }

    int run(int n) {
        int before = heres.size();
        if (n <= 2000) {
            for (int left = n; left > 0 && halted == 0; left--) {
                step();
            }
        }
        return heres.size() - before;
    }

    int printed(int k) {
        return k == -1 ? printedBytes.size() : fromLatest(printedBytes, k);
    }

    int trace(int k) {
        return fromLatest(heres, k);
    }

    int interrupts() {
        return interruptsMade;
    }

    int skips() {
        return skipsMade;
    }

    private static int fromLatest(List<Integer> all, int k) {
        return k < 0 || k > 63 || k >= all.size() ? -1 : all.get(all.size() - 1 - k);
    }

    private int ac() {
        return linkAndAc % 4096;
    }

    private int link() {
        return linkAndAc / 4096;
    }

    private void setAc(int word) {
        linkAndAc = link() * 4096 + word;
    }

    private void setLink(int bit) {
        linkAndAc = bit * 4096 + ac();
    }

    private void skip() {
        pc = (pc + 1) % 4096;
        skipsMade++;
    }

    private void step() {
        if (ion == 1 && readerFlag + printerFlag > 0) {
            core[0] = pc;
            pc = 1;
            ion = 0;
            interruptsMade++;
        }
        if (delay == 1) {
            delay = 0;
            ion = 1;
        }
        int here = pc;
        int w = core[here];
        heres.add(here);
        pc = (pc + 1) % 4096;
        String octal = String.format("%04o", w);
        if (octal.charAt(0) == '6') {
            device(octal);
        } else if (octal.charAt(0) != '7') {
            addressed(octal.charAt(0), address(w, here));
        } else if (w % 512 < 256) {
            change(w);
        } else if (w % 2 == 0) {
            test(w);
        } else {
            exchange(w);
        }
    }

    private int address(int w, int here) {
        int a = w % 128;
        if (w / 128 % 2 == 1) {
            a += here / 128 * 128;
        }
        if (w / 256 % 2 == 0) {
            return a;
        }
        if (a / 8 == 1) {
            core[a] = (core[a] + 1) % 4096;
        }
        return core[a];
    }

    private void addressed(char code, int e) {
        if (code == '0') {
            setAc(ac() & core[e]);
        } else if (code == '1') {
            // A carry out of AC runs into L, and one out of L is lost.
            linkAndAc = (linkAndAc + core[e]) % 8192;
        } else if (code == '2') {
            core[e] = (core[e] + 1) % 4096;
            if (core[e] == 0) {
                skip();
            }
        } else if (code == '3') {
            core[e] = ac();
            setAc(0);
        } else if (code == '4') {
            core[e] = pc;
            pc = (e + 1) % 4096;
        } else {
            pc = e;
        }
    }

    private void device(String octal) {
        if (octal.equals("6001")) {
            delay = 1;
        } else if (octal.equals("6002")) {
            ion = 0;
            delay = 0;
        } else if (octal.equals("6030")) {
            readerFlag = 0;
        } else if (octal.equals("6031") && readerFlag == 1) {
            skip();
        } else if (octal.equals("6032")) {
            setAc(0);
            advance();
        } else if (octal.equals("6034")) {
            setAc(ac() | buffer);
        } else if (octal.equals("6036")) {
            setAc(buffer);
            advance();
        } else if (octal.equals("6041") && printerFlag == 1) {
            skip();
        } else if (octal.equals("6042")) {
            printerFlag = 0;
        } else if (octal.equals("6044") || octal.equals("6046")) {
            printedBytes.add(ac() % 256);
            printerFlag = 1;
        }
    }

    private void advance() {
        readerFlag = 0;
        if (!tape.isEmpty()) {
            buffer = tape.removeFirst();
            readerFlag = 1;
        }
    }

    private void change(int w) {
        if (w / 128 % 2 == 1) {
            setAc(0);
        }
        if (w / 64 % 2 == 1) {
            setLink(0);
        }
        if (w / 32 % 2 == 1) {
            setAc(4095 - ac());
        }
        if (w / 16 % 2 == 1) {
            setLink(1 - link());
        }
        if (w % 2 == 1) {
            linkAndAc = (linkAndAc + 1) % 8192;
        }
        int turn = w / 4 % 4;
        for (int i = 0; i <= w / 2 % 2; i++) {
            if (turn == 1) {
                linkAndAc = linkAndAc * 2 % 8192 + linkAndAc / 4096;
            } else if (turn == 2) {
                linkAndAc = linkAndAc / 2 + linkAndAc % 2 * 4096;
            }
        }
    }

    private void test(int w) {
        boolean holds = false;
        if (w / 64 % 2 == 1 && ac() / 2048 == 1) {
            holds = true;
        }
        if (w / 32 % 2 == 1 && ac() == 0) {
            holds = true;
        }
        if (w / 16 % 2 == 1 && link() == 1) {
            holds = true;
        }
        boolean turned = w / 8 % 2 == 1;
        if (turned ? !holds : holds) {
            skip();
        }
        if (w / 128 % 2 == 1) {
            setAc(0);
        }
        if (w / 4 % 2 == 1) {
            setAc(ac() | sr);
        }
        if (w / 2 % 2 == 1) {
            halted = 1;
        }
    }

    private void exchange(int w) {
        if (w / 128 % 2 == 1) {
            setAc(0);
        }
        int oldAc = ac();
        int oldMq = mq;
        boolean high = w / 64 % 2 == 1;
        boolean low = w / 16 % 2 == 1;
        if (high && low) {
            setAc(oldMq);
            mq = oldAc;
        } else if (high) {
            setAc(oldAc | oldMq);
        } else if (low) {
            mq = oldAc;
            setAc(0);
        }
    }
}
