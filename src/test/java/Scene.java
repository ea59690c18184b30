/**
 * Offices in states of several kinds. Each is made anew by the same calls, so that what two of them
 * answer can be compared; all have lag 2, 10 ticks an interval and error 3.
 */
enum Scene {
    /** Nothing was done. */
    FRESH {
        @Override
        Office make() {
            return office(0);
        }
    },
    /**
     * Three chains, the middle of interval 3. Receivers 0 and 1 hold and have released, 2 knows chain 1
     * alone, 3 nothing; 4 holds, and has not seen yet the key that packets 5 and 6 show.
     */
    BUSY {
        @Override
        Office make() {
            return busy(3);
        }
    },
    /** Eight chains. */
    ALL_CHAINS {
        @Override
        Office make() {
            return busy(8);
        }
    },
    /** Three chains, and an interval of the last of them. */
    IN_THE_LAST_CHAIN {
        @Override
        Office make() {
            Office x = busy(3);
            x.tick(10 * 150 - 7 - x.count(0));
            x.arrive(0, x.send(4), 0, 0);
            return x;
        }
    },
    /** Three chains, and the first interval behind them. */
    BEHIND_THE_CHAINS {
        @Override
        Office make() {
            Office x = busy(3);
            x.tick(10 * 192 - x.count(0));
            return x;
        }
    },
    /** The last tick of interval 512. */
    LAST_TICK {
        @Override
        Office make() {
            Office x = busy(8);
            x.join(2, 505);
            x.tick(10 * 512 - 1 - x.count(0));
            x.arrive(2, x.send(6), 0, 0);
            return x;
        }
    },
    /** 200 packets, and the chain behind is there. */
    ALL_PACKETS {
        @Override
        Office make() {
            Office x = busy(2);
            for (int p = x.count(3); p < 200; p++) {
                x.send(p % 3);
            }
            return x;
        }
    },
    /** Receiver 0 holds 16. */
    FULL {
        @Override
        Office make() {
            Office x = office(2);
            x.join(0, 0);
            for (int n = 0; n < 18; n++) {
                x.arrive(0, x.send(n), 0, 0);
            }
            return x;
        }
    },
    /** Receiver 0 has released 111, of which 100 are kept. */
    MANY_RELEASED {
        @Override
        Office make() {
            Office x = office(1);
            x.join(0, 0);
            for (int round = 0; round < 7; round++) {
                for (int n = 1; n <= 15; n++) {
                    x.arrive(0, x.send(n), 0, 0);
                }
                x.tick(20);
                x.arrive(0, x.send(0), 0, 0);
            }
            return x;
        }
    };

    abstract Office make();

    static Office office(int chains) {
        return office(chains, 2, 10, 3);
    }

    /** An office with this very lag, these ticks and this error. */
    static Office office(int chains, int lag, int ticks, int error) {
        Office x = new Office(lag - 1, ticks - 1, error);
        for (int c = 0; c < chains; c++) {
            x.chain(c, 10 + c, -20 - c, Integer.MIN_VALUE + c, 40 + c);
        }
        return x;
    }

    /** Key 64 of a chain of these offices. */
    static byte[] topKey(int c) {
        return Crypto.topKey(c, 10 + c, -20 - c, Integer.MIN_VALUE + c, 40 + c);
    }

    static byte[] rootOf(int c) {
        return Crypto.down(topKey(c), 64);
    }

    /** The key of an interval from 1 on. */
    static byte[] keyOf(int g) {
        return Crypto.down(topKey((g - 1) / 64), 63 - (g - 1) % 64);
    }

    /** To the first tick of an interval that is not over yet. */
    static void toInterval(Office x, int g, int ticks) {
        int n = (g - 1) * ticks - x.count(0);
        if (n > 0) {
            x.tick(n);
        }
    }

    private static Office busy(int chains) {
        Office x = office(chains);
        for (int i = 0; i < 8; i++) {
            x.load(i, 0x01020304 * (i + 1));
        }
        x.join(0, 0);
        x.join(1, 0);
        x.join(2, 64);
        x.join(4, 0);
        x.drift(1, -7);
        x.drift(2, 5);
        for (int n : new int[] {4, 0, 20}) {
            x.arrive(0, x.send(n), 0, 0);
            x.arrive(3, x.count(3) - 1, 0, 0);
        }
        x.arrive(4, 0, 0, 0);
        x.arrive(1, x.root(), 0, 0);
        x.arrive(0, 1, 8, 1);
        x.arrive(0, 0, 0, 0);
        x.arrive(0, 0, 4, 2);
        x.tick(10);
        x.arrive(0, x.send(7), 0, 0);
        x.tick(10);
        x.send(3);
        x.arrive(0, 5, 30, 1);
        x.arrive(0, 5, 0, 0);
        x.arrive(1, 5, 0, 0);
        x.arrive(0, 0, 0, 0);
        x.tick(4);
        x.arrive(1, x.send(5), 0, 0);
        x.arrive(2, 6, 0, 0);
        return x;
    }
}
