import java.util.Arrays;

/** The boundary cases that the document's terms name, but for an arriving copy's outcomes. */
final class TermsEdges {
    private static final int LEAST = Integer.MIN_VALUE;
    private static final int MOST = Integer.MAX_VALUE;

    private static final Class<IllegalArgumentException> ARGUMENT = IllegalArgumentException.class;
    private static final Class<IllegalStateException> STATE = IllegalStateException.class;
    private static final Class<IndexOutOfBoundsException> INDEX = IndexOutOfBoundsException.class;

    private final Check check;
    private final Sentences doc;

    TermsEdges(Check check, Sentences doc) {
        this.check = check;
        this.doc = doc;
    }

    void all() {
        digestAndSeal();
        chainsAndIntervals();
        packets();
        severalExceptions();
        nothingThere();
    }

    private void sentence(String quote, Check.Act test) {
        doc.sentence(Sentences.TERMS, quote, test);
    }

    private void digestAndSeal() {
        sentence("behind the row a byte 128, noughts, and its length in bits (8 bytes)", () -> {
            Office x = new Office(0, 0, 0);
            check.is("of no bytes, first word", 0xe3b0c442, x.digest(0, 0));
            check.is("of no bytes, last word", 0x7852b855, x.digest(0, 7));
            x.load(0, 0x61626300);
            check.is("of \"abc\", first word", 0xba7816bf, x.digest(3, 0));
            check.is("of \"abc\", last word", 0xf20015ad, x.digest(3, 7));
            x.load(0, 0x80000000);
            check.is("a byte 128 of its own is none behind the row", 0, 0xe3b0c442 == x.digest(1, 0) ? 1 : 0);
        });
        sentence("(at most 64 bytes, noughts behind it to 64)", () -> {
            Office x = new Office(0, 0, 0);
            x.chain(0, 0, 0, 0, 0);
            byte[] due = Crypto.down(new byte[20], 1);
            for (int i = 0; i < 20; i++) {
                check.is("the key below one of noughts, byte " + i, due[i] & 255, x.key(63, i));
            }
        });
    }

    private void chainsAndIntervals() {
        sentence("CHAINS 0 .. 7, none at first", () -> {
            Office x = new Office(0, 0, 0);
            check.is("at first", 0, x.count(2));
            for (int c = 0; c < 8; c++) {
                check.answers("chain " + c, c, () -> x.chain(1, 1, 1, 1, 1));
            }
            check.fails("chain 8", STATE, () -> x.chain(1, 1, 1, 1, 1));
        });
        sentence("each with KEYS 0 .. 64 of 20 bytes: key 64 is given", () -> {
            Office x = Scene.office(1);
            for (int i = 0; i < 20; i++) {
                check.is("key 64 byte " + i, Scene.topKey(0)[i] & 255, x.key(64, i));
                check.is("key 63 byte " + i, Crypto.down(Scene.topKey(0), 1)[i] & 255, x.key(63, i));
                check.is("key 1 byte " + i, Crypto.down(Scene.topKey(0), 63)[i] & 255, x.key(1, i));
            }
            check.fails("byte 20", INDEX, () -> x.key(64, 20));
        });
        sentence("Key 0 is the ROOT", () -> {
            Office x = Scene.office(2);
            int p = x.root();
            for (int i = 0; i < 20; i++) {
                int due = Crypto.down(Scene.topKey(1), 64)[i] & 255;
                check.is("key 0 of chain 1 byte " + i, due, x.key(64, i));
                check.is("in a root packet, byte " + i, due, x.packet(p, 6 + i));
            }
        });
        sentence("interval g has chain (g - 1) / 64, and its key (g - 1) modulo 64, plus 1", () -> {
            for (int g : new int[] {1, 2, 63, 64, 65, 66, 128, 129, 448, 449, 511, 512}) {
                Office x = Scene.office(8, 8, 10, 0);
                Scene.toInterval(x, g, 10);
                int p = x.send(0);
                byte[] row = {0, 0, (byte) (g >> 8), (byte) g, 0, 0};
                byte[] due = Crypto.code(row, Scene.keyOf(g));
                for (int i = 0; i < 10; i++) {
                    check.is("code of interval " + g + " byte " + i, due[i] & 255, x.packet(p, 6 + i));
                }
            }
        });
        sentence("at time t it is interval t / ticks + 1", () -> {
            for (int ticks : new int[] {1, 2, 7, 999, 1000}) {
                Office x = Scene.office(0, 1, ticks, 0);
                check.is("at time 0", 1, x.count(1));
                for (int g = 2; g < 5; g++) {
                    if (ticks > 1) {
                        x.tick(ticks - 1);
                        check.is("the last tick, of " + ticks, g - 1, x.count(1));
                    }
                    x.tick(1);
                    check.is("the first tick, of " + ticks, g, x.count(1));
                }
            }
        });
        sentence("A root is also said to be the key of the interval before its chain's first one", () -> {
            Office x = Scene.office(3);
            for (int c = 0; c < 3; c++) {
                check.is("key of " + 64 * c, Scene.rootOf(c)[7] & 255, x.key(64 * c, 7));
                x.join(c, 64 * c);
                check.is("known of " + 64 * c, 64 * c, x.receiver(c, Told.LATEST));
            }
        });
    }

    private void packets() {
        sentence("(noughts, when g is not above the lag)", () -> {
            for (int lag = 1; lag <= 8; lag++) {
                Office x = Scene.office(1, lag, 10, 0);
                for (int g = 1; g <= lag + 2; g++) {
                    Scene.toInterval(x, g, 10);
                    int p = x.send(0);
                    byte[] due = g <= lag ? new byte[20] : Scene.keyOf(g - lag);
                    for (int i = 0; i < 20; i++) {
                        check.is("lag " + lag + ", interval " + g, due[i] & 255, x.packet(p, 16 + i));
                    }
                }
            }
        });
        sentence("20 bytes that SHOW the key of interval g - LAG", () -> {
            for (int g : new int[] {64, 65, 66, 67, 68, 131, 132, 512}) {
                Office x = Scene.office(8, 3, 10, 0);
                Scene.toInterval(x, g, 10);
                int p = x.send(0);
                for (int i = 0; i < 20; i++) {
                    check.is("interval " + g, Scene.keyOf(g - 3)[i] & 255, x.packet(p, 16 + i));
                }
            }
        });
        sentence("A bulletin has 0 to 32 bytes", () -> {
            for (int n : new int[] {0, 1, 32}) {
                Office x = Scene.office(1);
                for (int i = 0; i < 8; i++) {
                    x.load(i, 0x11223344 + i);
                }
                int p = x.send(n);
                check.is("its n", n, x.packet(p, 5));
                check.answers("its last byte", 0, () -> x.packet(p, 35 + n));
                check.fails("a byte behind it", INDEX, () -> x.packet(p, 36 + n));
                if (n > 0) {
                    check.is("its last own byte", n == 1 ? 0x11 : 0x44 + 7, x.packet(p, 5 + n));
                }
            }
        });
        sentence("a root packet the root of the chain behind that of g", () -> {
            for (int g : new int[] {1, 64, 65, 448}) {
                Office x = Scene.office(8);
                Scene.toInterval(x, g, 10);
                int p = x.root();
                check.is("its kind", 1, x.packet(p, 4));
                check.is("its n", 20, x.packet(p, 5));
                byte[] due = Scene.rootOf((g - 1) / 64 + 1);
                for (int i = 0; i < 20; i++) {
                    check.is("interval " + g + " byte " + i, due[i] & 255, x.packet(p, 6 + i));
                }
            }
        });
    }

    private void severalExceptions() {
        sentence("Of several exceptions the first one told is thrown", () -> {
            doc.refused("tick 0 at the end", ARGUMENT, x -> x.tick(0), Scene.LAST_TICK);
            doc.refused("tick 100001 at the end", ARGUMENT, x -> x.tick(100001), Scene.LAST_TICK);
            doc.refused("digest of 33, word 8", ARGUMENT, x -> x.digest(33, 8), Scene.BUSY);
            doc.refused("digest of -1, word -1", ARGUMENT, x -> x.digest(-1, -1), Scene.FRESH);
            doc.refused("send 33 without a chain", ARGUMENT, x -> x.send(33), Scene.FRESH, Scene.BEHIND_THE_CHAINS);
            doc.refused("send -1 behind 200", ARGUMENT, x -> x.send(-1), Scene.ALL_PACKETS);
            for (int i : new int[] {-1, 20}) {
                doc.refused("key of 1, byte " + i + ", without a chain", INDEX, x -> x.key(1, i), Scene.FRESH);
                doc.refused("key of 193, byte " + i + ", without its chain", INDEX, x -> x.key(193, i), Scene.BUSY);
            }
            doc.refused("key of 513 without a chain", INDEX, x -> x.key(513, 0), Scene.FRESH);
            for (int r : new int[] {-1, 8, LEAST, MOST}) {
                doc.refused("join of " + r + " without a chain", INDEX, x -> x.join(r, 0), Scene.FRESH);
                doc.refused("join of " + r + " without its chain", INDEX, x -> x.join(r, 511), Scene.BUSY);
                doc.refused("drift of " + r + " by 10001", INDEX, x -> x.drift(r, 10001), Scene.BUSY);
                doc.refused("arrive at " + r + ", mask 256", INDEX, x -> x.arrive(r, 0, 0, 256), Scene.BUSY);
            }
            doc.refused("join at 512 without a chain", INDEX, x -> x.join(0, 512), Scene.FRESH);
            doc.refused("arrive of 7, mask -1", INDEX, x -> x.arrive(0, 7, 0, -1), Scene.BUSY);
            doc.refused("arrive with byte 40, mask 256", INDEX, x -> x.arrive(0, 0, 40, 256), Scene.BUSY);
            fullOfPacketsWithoutAChain();
        });
    }

    /** With 200 packets: the state is told before that there are so many. */
    private void fullOfPacketsWithoutAChain() {
        Office x = Scene.office(1);
        for (int p = 0; p < 200; p++) {
            x.send(0);
        }
        check.fails("a root without the chain behind", STATE, () -> x.root());
        x.tick(640);
        check.fails("a bulletin without its chain", STATE, () -> x.send(0));
        check.fails("a root without its chain", STATE, () -> x.root());
        check.is("packets", 200, x.count(3));
        byte[] due = Arrays.copyOf(Crypto.code(new byte[] {0, 0, 0, 1, 0, 0}, Scene.keyOf(1)), 10);
        check.is("the last one is as it was", due[0] & 255, x.packet(199, 6));
    }

    private void nothingThere() {
        sentence("The constants: `NONE = -1`: Nothing there", () -> {
            Office x = Scene.office(1);
            check.is("NONE", -1, BulletinOffice.NONE);
            check.is("no latest key", -1, x.receiver(0, Told.LATEST));
            check.is("no such count", -1, x.count(4));
        });
    }
}
