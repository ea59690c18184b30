import java.util.Arrays;

/** Promises 2 to 9 and 16 in ordinary use: the sender's side, against the Java library. */
public final class SenderTest {
    private static final Check check = new Check();

    private SenderTest() {
    }

    public static void main(String[] args) {
        keysOfAChain();
        keysOfEightChains();
        chainsInUse();
        time();
        buffer();
        digests();
        bulletinsOfAllSizes();
        bulletinsOfManyIntervals();
        roots();
        check.end("SenderTest");
    }

    private static void keysOfAChain() {
        byte[] top = Crypto.topKey(0x01020304, 0xa1b2c3d4, -1, Integer.MIN_VALUE, 7);
        for (int from = 0; from < 65; from += 20) {
            Office x = new Office(0, 0, 0);
            check.is("chain", 0, x.chain(0x01020304, 0xa1b2c3d4, -1, Integer.MIN_VALUE, 7));
            for (int g = from; g < Math.min(65, from + 20); g++) {
                byte[] key = Crypto.down(top, 64 - g);
                for (int i = 0; i < 20; i++) {
                    check.is("key " + g + " byte " + i, key[i] & 255, x.key(g, i));
                }
            }
        }
    }

    private static void keysOfEightChains() {
        for (int from = 1; from <= 512; from += 256) {
            Office x = Scene.office(8);
            for (int g = from; g < from + 256; g++) {
                byte[] due = g % 64 == 0 && g < 512 ? Scene.rootOf(g / 64) : Scene.keyOf(g);
                check.is("key of " + g, due[g % 20] & 255, x.key(g, g % 20));
            }
        }
    }

    /** A chain that comes later changes none of those that are there, and can be used at once. */
    private static void chainsInUse() {
        Office x = Scene.office(1);
        x.send(2);
        int before = x.packet(0, 10);
        x.tick(700);
        check.fails("no chain yet", IllegalStateException.class, () -> x.send(2));
        check.is("chain", 1, x.chain(1, 11, -21, Integer.MIN_VALUE + 1, 41));
        check.is("send", 1, x.send(0));
        Rows.packetIs(check, x, 1, Rows.packet(71, 0, new byte[0], 2));
        check.is("the packet from before", before, x.packet(0, 10));
    }

    private static void time() {
        Office x = Scene.office(2);
        int time = 0;
        for (int n : new int[] {1, 9, 10, 11, 25, 100, 1234}) {
            time += n;
            check.is("tick", time, x.tick(n));
            check.is("time", time, x.count(0));
            check.is("interval", time / 10 + 1, x.count(1));
        }
    }

    private static void buffer() {
        Office x = new Office(0, 0, 0);
        for (int i = 0; i < 8; i++) {
            check.is("load " + i, 0, x.load(i, i - 5));
        }
        for (int i = 7; i >= 0; i--) {
            check.is("load " + i + " again", i - 5, x.load(i, 1 << i));
            check.is("load " + i + " a third time", 1 << i, x.load(i, 0));
        }
    }

    private static void digests() {
        Office x = new Office(0, 0, 0);
        byte[] buffer = Rows.fill(x, 12345);
        for (int n = 0; n <= 32; n++) {
            byte[] due = Crypto.digest(Arrays.copyOf(buffer, n));
            for (int i = 0; i < 8; i++) {
                check.is("digest " + n + " word " + i, Crypto.word(due, i), x.digest(n, i));
            }
        }
    }

    private static void bulletinsOfAllSizes() {
        for (int n = 0; n <= 32; n++) {
            Office x = Scene.office(1, 3, 1, 0);
            byte[] buffer = Rows.fill(x, n + 1);
            check.is("send", 0, x.send(n));
            Rows.packetIs(check, x, 0, Rows.packet(1, 0, Arrays.copyOf(buffer, n), 3));
            check.is("packets", 1, x.count(3));
        }
    }

    private static void bulletinsOfManyIntervals() {
        int[] intervals = {1, 2, 3, 4, 63, 64, 65, 66, 67, 68, 131, 132, 256, 257, 259, 448, 449, 451, 452, 511,
            512};
        for (int lag = 1; lag <= 8; lag++) {
            for (int g : intervals) {
                Office x = Scene.office(8, lag, 7, 0);
                Scene.toInterval(x, g, 7);
                byte[] buffer = Rows.fill(x, g);
                check.is("send", 0, x.send(5));
                Rows.packetIs(check, x, 0, Rows.packet(g, 0, Arrays.copyOf(buffer, 5), lag));
            }
        }
    }

    private static void roots() {
        Office x = Scene.office(3, 3, 1, 0);
        int p = 0;
        for (int g : new int[] {1, 4, 63, 64, 65, 66, 128}) {
            Scene.toInterval(x, g, 1);
            check.is("root", p, x.root());
            Rows.packetIs(check, x, p, Rows.packet(g, 1, Scene.rootOf((g - 1) / 64 + 1), 3));
            p++;
        }
        check.is("a bulletin has the next number", p, x.send(1));
    }
}
