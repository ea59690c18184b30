import java.util.ArrayList;
import java.util.List;

/**
 * Ways to read an office in full. Each gets an office of its own, since all of them together would need
 * more calls than one object has; what stands inside alone shows when the office goes on.
 */
enum Look {
    /** The sender's counts, the buffer, and the receivers' counts and drifts. */
    COUNTS {
        @Override
        void ask(Office x, Answers to) {
            for (int what = -1; what <= 4; what++) {
                int w = what;
                to.add("count " + w, () -> x.count(w));
            }
            for (int i = 0; i < 8; i++) {
                int word = i;
                to.add("load " + i, () -> x.load(word, 0));
            }
            for (int r = 0; r < 8; r++) {
                askReceiver(x, r, to);
                int of = r;
                to.add("drift " + r, () -> x.drift(of, 0));
            }
        }
    },
    /** All bytes of the newest packets. */
    PACKETS {
        @Override
        void ask(Office x, Answers to) {
            for (int p = x.count(3) - 1; p >= 0 && x.left() > 70; p--) {
                boolean there = true;
                for (int i = 0; there; i++) {
                    int of = p;
                    int b = i;
                    there = to.add("packet " + p + " byte " + i, () -> x.packet(of, b));
                }
            }
        }
    },
    /** A byte of each packet. */
    EACH_PACKET {
        @Override
        void ask(Office x, Answers to) {
            for (int p = 0; p <= 200; p++) {
                int of = p;
                to.add("packet " + p, () -> x.packet(of, 6 + of % 30));
            }
        }
    },
    /** Keys of each chain. */
    KEYS {
        @Override
        void ask(Office x, Answers to) {
            for (int g = 0; g <= 512; g++) {
                if (g % 4 == 0 || g % 64 == 1 || g % 64 == 63) {
                    int of = g;
                    to.add("key " + g, () -> x.key(of, of % 20));
                }
            }
        }
    },
    /** The last key of each chain, which key() does not tell when there is a chain behind. */
    LAST_KEYS {
        @Override
        void ask(Office x, Answers to) {
            for (int g = 64; g <= 512; g += 64) {
                int n = 10 * (g - 1) - x.count(0);
                to.add("tick to interval " + g, () -> x.tick(n));
                to.add("send in interval " + g, () -> x.send(0));
                int newest = x.count(3) - 1;
                to.add("its code", () -> x.packet(newest, 6));
            }
        }
    },
    /** What was released. */
    RELEASED {
        @Override
        void ask(Office x, Answers to) {
            to.add("the 100th", () -> x.released(0, 99, 2));
            to.add("the 101st", () -> x.released(0, 100, 2));
            for (int r = 0; r < 8; r++) {
                boolean there = true;
                for (int k = 0; there && x.left() > 50; k++) {
                    there = askReleased(x, r, k, to);
                }
            }
        }
    },
    /** What happens when the office goes on: what is held and what is known shows by that. */
    ONWARD {
        @Override
        void ask(Office x, Answers to) {
            int all = x.count(3);
            for (int r = 0; r < USED; r++) {
                for (int p = Math.max(0, all - 7); p < all; p++) {
                    askArrive(x, r, p, to);
                }
            }
            for (int turn = 0; turn < 4; turn++) {
                to.add("tick", () -> x.tick(10));
                to.add("send", () -> x.send(2));
                int newest = x.count(3) - 1;
                for (int r = 0; r < USED; r++) {
                    askArrive(x, r, newest, to);
                }
            }
            to.add("root", () -> x.root());
            to.add("chain", () -> x.chain(5, 4, 3, 2, 1));
            for (int r = 0; r < USED; r++) {
                askReceiver(x, r, to);
                boolean there = true;
                for (int k = 0; there && x.left() > 100; k++) {
                    int of = r;
                    int which = k;
                    there = to.add("released " + k, () -> x.released(of, which, 0));
                    to.add("its n", () -> x.released(of, which, 2));
                }
            }
        }
    };

    /** Answers in the order in which they were asked for, exceptions among them. */
    static final class Answers {
        private final List<String> all = new ArrayList<>();

        /** False, when the call threw. */
        boolean add(String what, Check.Call call) {
            try {
                all.add(what + ": " + call.answer());
                return true;
            } catch (RuntimeException e) {
                all.add(what + ": " + e.getClass().getSimpleName());
                return false;
            }
        }
    }

    /** How many receivers the scenes use. */
    private static final int USED = 5;

    abstract void ask(Office x, Answers to);

    List<String> read(Office x) {
        Answers to = new Answers();
        ask(x, to);
        return to.all;
    }

    private static void askReceiver(Office x, int r, Answers to) {
        for (int what = 0; what <= 9; what++) {
            int w = what;
            to.add("receiver " + r + " what " + what, () -> x.receiver(r, w));
        }
    }

    private static void askArrive(Office x, int r, int p, Answers to) {
        to.add("arrive " + r + " " + p, () -> x.arrive(r, p, 0, 0));
    }

    private static boolean askReleased(Office x, int r, int k, Answers to) {
        for (int what = 0; what < 3; what++) {
            int w = what;
            if (!to.add("released " + r + " " + k + " what " + what, () -> x.released(r, k, w))) {
                return false;
            }
        }
        boolean there = true;
        for (int i = 0; there; i++) {
            int b = i;
            there = to.add("releasedByte " + r + " " + k + " " + i, () -> x.releasedByte(r, k, b));
        }
        return true;
    }
}
