import java.io.ByteArrayOutputStream;
import java.nio.ByteBuffer;
import java.util.Arrays;

/** Promises 1 to 9 and 16: the sender's side. */
public final class SenderTest {
    private static final Class<IllegalArgumentException> ARGUMENT = IllegalArgumentException.class;
    private static final Class<IllegalStateException> STATE = IllegalStateException.class;
    private static final Class<IndexOutOfBoundsException> INDEX = IndexOutOfBoundsException.class;
    private static final Class<UnsupportedOperationException> UNSUPPORTED =
            UnsupportedOperationException.class;

    private static final Check check = new Check();

    public static void main(String[] args) {
        newObject();
        lagOfANewObject();
        ticksOfANewObject();
        errorOfANewObject();
        chain();
        tick();
        load();
        digest();
        sendWrongInputs();
        sendBytes();
        sendShowsKeys();
        twoHundredPackets();
        root();
        rootOfTheLastChain();
        packet();
        key();
        keyOfEightChains();
        count();
        check.end("SenderTest");
    }

    private static BulletinOffice withChains(int n, int lag, int ticks, int error) {
        BulletinOffice x = new BulletinOffice(lag, ticks, error);
        for (int c = 0; c < n; c++) {
            x.chain(c + 1, -c, 77 * c, Integer.MIN_VALUE + c, 9);
        }
        return x;
    }

    private static byte[] topKey(int c) {
        return Crypto.topKey(c + 1, -c, 77 * c, Integer.MIN_VALUE + c, 9);
    }

    private static byte[] keyOf(int g) {
        return Crypto.down(topKey((g - 1) / 64), 64 - ((g - 1) % 64 + 1));
    }

    private static byte[] bytesOf(BulletinOffice x, int p, int length) {
        byte[] row = new byte[length];
        for (int i = 0; i < length; i++) {
            row[i] = (byte) x.packet(p, i);
        }
        return row;
    }

    private static void newObject() {
        BulletinOffice x = new BulletinOffice(3, 4, 5);
        check.is("time at first", 0, x.count(0));
        check.is("interval at first", 1, x.count(1));
        check.is("chains at first", 0, x.count(2));
        check.is("packets at first", 0, x.count(3));
        for (int r = 0; r < 8; r++) {
            for (int what = 0; what < 9; what++) {
                check.is("receiver at first", 0, x.receiver(r, what));
            }
            check.is("latest key at first", BulletinOffice.NONE, x.receiver(r, 9));
            check.is("drift at first", 0, x.drift(r, 1));
            int of = r;
            check.fails("released at first", INDEX, () -> x.released(of, 0, 0));
            check.fails("releasedByte at first", INDEX, () -> x.releasedByte(of, 0, 0));
        }
        check.is("NONE", -1, BulletinOffice.NONE);
    }

    /** The first interval whose packet shows a key is the one above the lag. */
    private static void lagOfANewObject() {
        int[][] cases = {{0, 1}, {1, 2}, {7, 8}, {8, 1}, {15, 8}, {-1, 8}, {-8, 1}, {-9, 8},
            {Integer.MAX_VALUE, 8}, {Integer.MIN_VALUE, 1}};
        for (int[] c : cases) {
            BulletinOffice x = withChains(1, c[0], 0, 0);
            x.tick(c[1] - 1 == 0 ? 1 : c[1] - 1);
            int p = x.send(0);
            boolean shows = !Arrays.equals(Arrays.copyOfRange(bytesOf(x, p, 36), 16, 36), new byte[20]);
            check.is("lag " + c[0] + " shows at or below it", c[1] == 1 ? 1 : 0, shows ? 1 : 0);
            if (c[1] > 1) {
                x.tick(1);
            }
            int q = x.send(0);
            check.is("lag " + c[0] + " shows above it", keyOf(1)[0] & 255, x.packet(q, 16));
        }
    }

    private static void ticksOfANewObject() {
        int[][] cases = {{0, 1}, {1, 2}, {999, 1000}, {1000, 1}, {1999, 1000}, {-1, 1000}, {-1000, 1},
            {Integer.MIN_VALUE, 353}, {Integer.MAX_VALUE, 648}};
        for (int[] c : cases) {
            BulletinOffice x = new BulletinOffice(0, c[0], 0);
            if (c[1] > 1) {
                x.tick(c[1] - 1);
                check.is("ticks " + c[0] + ", the last of interval 1", 1, x.count(1));
            }
            x.tick(1);
            check.is("ticks " + c[0] + ", the first of interval 2", 2, x.count(1));
        }
    }

    private static void errorOfANewObject() {
        int[][] cases = {{0, 0}, {1, 1}, {10000, 10000}, {10001, 0}, {-1, 10000}, {-10001, 0},
            {Integer.MIN_VALUE, Math.floorMod(Integer.MIN_VALUE, 10001)},
            {Integer.MAX_VALUE, Math.floorMod(Integer.MAX_VALUE, 10001)}};
        for (int[] c : cases) {
            BulletinOffice x = withChains(1, 0, 0, c[0]);
            x.join(0, 0);
            x.send(0);
            // interval 1, lag 1, one tick: late from time + drift + error = 1 on
            x.drift(0, -c[1]);
            check.is("error " + c[0] + ", just in time", 0, x.arrive(0, 0, 0, 0));
            if (c[1] < 10000) {
                x.join(0, 0);
                x.drift(0, -c[1] + 1);
                check.is("error " + c[0] + ", just late", 1, x.arrive(0, 0, 0, 0));
            } else {
                x.tick(1);
                check.is("error " + c[0] + ", just late", 1, x.arrive(0, 0, 0, 0));
            }
        }
    }

    private static void chain() {
        BulletinOffice x = new BulletinOffice(0, 0, 0);
        for (int c = 0; c < 8; c++) {
            check.is("chain " + c, c, x.chain(c, 1, 2, 3, -4));
            check.is("chains", c + 1, x.count(2));
        }
        check.fails("a ninth chain", STATE, () -> x.chain(1, 2, 3, 4, 5));
        check.is("chains after the ninth", 8, x.count(2));

        BulletinOffice y = new BulletinOffice(0, 0, 0);
        y.chain(0x01020304, 0xa1b2c3d4, -1, Integer.MIN_VALUE, 7);
        byte[] top = Crypto.topKey(0x01020304, 0xa1b2c3d4, -1, Integer.MIN_VALUE, 7);
        for (int g = 0; g <= 64; g++) {
            byte[] key = Crypto.down(top, 64 - g);
            for (int i = 0; i < 20; i++) {
                check.is("key " + g + " byte " + i, key[i] & 255, y.key(g, i));
            }
        }
    }

    private static void tick() {
        BulletinOffice x = new BulletinOffice(0, 999, 0);
        check.is("tick", 1, x.tick(1));
        check.is("tick", 100001, x.tick(100000));
        for (int n : new int[] {0, -1, 100001, Integer.MIN_VALUE, Integer.MAX_VALUE}) {
            check.fails("tick " + n, ARGUMENT, () -> x.tick(n));
        }
        check.is("time after wrong ticks", 100001, x.count(0));
        for (int i = 0; i < 4; i++) {
            x.tick(100000);
        }
        check.fails("tick into interval 513", STATE, () -> x.tick(11999));
        check.answers("tick to the end of interval 512", 511999, () -> x.tick(11998));
        check.is("the last interval", 512, x.count(1));
        check.fails("tick out of the last interval", STATE, () -> x.tick(1));
        check.fails("a wrong tick in the last interval", ARGUMENT, () -> x.tick(0));
        check.is("time in the last interval", 511999, x.count(0));
    }

    private static void load() {
        BulletinOffice x = new BulletinOffice(0, 0, 0);
        for (int i = 0; i < 8; i++) {
            check.is("load " + i, 0, x.load(i, i - 5));
        }
        for (int i = 0; i < 8; i++) {
            check.is("load " + i + " again", i - 5, x.load(i, Integer.MIN_VALUE));
            check.is("load " + i + " a third time", Integer.MIN_VALUE, x.load(i, 0));
        }
        for (int i : new int[] {-1, 8, Integer.MIN_VALUE, Integer.MAX_VALUE}) {
            check.fails("load " + i, INDEX, () -> x.load(i, 1));
        }
    }

    private static byte[] fill(BulletinOffice x, int seed) {
        ByteBuffer buffer = ByteBuffer.allocate(32);
        for (int i = 0; i < 8; i++) {
            int word = seed * (i + 1) * 0x9e3779b1;
            buffer.putInt(word);
            x.load(i, word);
        }
        return buffer.array();
    }

    private static void digest() {
        BulletinOffice x = new BulletinOffice(0, 0, 0);
        byte[] buffer = fill(x, 12345);
        for (int n = 0; n <= 32; n++) {
            byte[] due = Crypto.digest(Arrays.copyOf(buffer, n));
            for (int i = 0; i < 8; i++) {
                check.is("digest " + n + " word " + i, Crypto.word(due, i), x.digest(n, i));
            }
        }
        for (int n : new int[] {-1, 33, Integer.MIN_VALUE, Integer.MAX_VALUE}) {
            check.fails("digest of " + n, ARGUMENT, () -> x.digest(n, 0));
            check.fails("digest of " + n + ", both wrong", ARGUMENT, () -> x.digest(n, 8));
        }
        for (int i : new int[] {-1, 8, Integer.MIN_VALUE, Integer.MAX_VALUE}) {
            check.fails("digest word " + i, INDEX, () -> x.digest(32, i));
        }
    }

    private static void sendWrongInputs() {
        BulletinOffice x = new BulletinOffice(0, 0, 0);
        for (int n : new int[] {-1, 33, Integer.MIN_VALUE, Integer.MAX_VALUE}) {
            check.fails("send " + n + " without a chain", ARGUMENT, () -> x.send(n));
        }
        check.fails("send without a chain", STATE, () -> x.send(0));
        x.chain(1, 2, 3, 4, 5);
        x.tick(63);
        check.answers("send in interval 64", 0, () -> x.send(0));
        x.tick(1);
        check.fails("send in interval 65, one chain", STATE, () -> x.send(0));
        x.chain(1, 2, 3, 4, 5);
        check.answers("send in interval 65, two chains", 1, () -> x.send(0));
    }

    private static void checkPacket(String what, BulletinOffice x, int p, int g, int kind, byte[] body,
            int lag) {
        ByteArrayOutputStream row = new ByteArrayOutputStream();
        row.writeBytes(ByteBuffer.allocate(4).putInt(g).array());
        row.write(kind);
        row.write(body.length);
        row.writeBytes(body);
        row.writeBytes(Crypto.code(row.toByteArray(), keyOf(g)));
        row.writeBytes(g > lag ? keyOf(g - lag) : new byte[20]);
        byte[] due = row.toByteArray();
        for (int i = 0; i < due.length; i++) {
            check.is(what + " byte " + i, due[i] & 255, x.packet(p, i));
        }
        check.fails(what + " behind its end", INDEX, () -> x.packet(p, due.length));
    }

    private static void sendBytes() {
        BulletinOffice x = withChains(1, 2, 0, 0);
        for (int n = 0; n <= 32; n++) {
            byte[] buffer = fill(x, n + 1);
            check.is("send", n, x.send(n));
            checkPacket("bulletin of " + n, x, n, 1, 0, Arrays.copyOf(buffer, n), 3);
        }
        check.is("packets", 33, x.count(3));
    }

    private static void sendShowsKeys() {
        BulletinOffice x = withChains(8, 2, 0, 0);
        int g = 1;
        int p = 0;
        for (int next : new int[] {1, 2, 3, 4, 63, 64, 65, 66, 67, 68, 131, 132, 256, 257, 259, 448, 449,
            451, 452, 511, 512}) {
            if (next > g) {
                x.tick(next - g);
            }
            g = next;
            byte[] buffer = fill(x, g);
            check.is("send", p, x.send(5));
            checkPacket("bulletin in interval " + g, x, p, g, 0, Arrays.copyOf(buffer, 5), 3);
            p++;
        }
    }

    private static void twoHundredPackets() {
        BulletinOffice x = withChains(1, 0, 0, 0);
        for (int p = 0; p < 200; p++) {
            check.is("send", p, x.send(p % 33));
        }
        check.fails("the packet behind 200", UNSUPPORTED, () -> x.send(0));
        check.fails("a wrong one behind 200", ARGUMENT, () -> x.send(33));
        check.fails("a root without its chain behind 200", STATE, () -> x.root());
        x.chain(1, 1, 1, 1, 1);
        check.fails("a root behind 200", UNSUPPORTED, () -> x.root());
        x.tick(128);
        check.fails("send behind 200 without a chain", STATE, () -> x.send(0));
        check.is("packets", 200, x.count(3));
    }

    private static void root() {
        BulletinOffice x = new BulletinOffice(2, 0, 0);
        check.fails("root without a chain", STATE, () -> x.root());
        BulletinOffice y = withChains(1, 2, 0, 0);
        check.fails("root without the chain behind", STATE, () -> y.root());
        BulletinOffice z = withChains(3, 2, 0, 0);
        int g = 1;
        int p = 0;
        for (int next : new int[] {1, 4, 63, 64, 65, 66, 128}) {
            if (next > g) {
                z.tick(next - g);
            }
            g = next;
            check.is("root", p, z.root());
            byte[] root = Crypto.down(topKey((g - 1) / 64 + 1), 64);
            checkPacket("root in interval " + g, z, p, g, 1, root, 3);
            p++;
        }
        z.tick(1);
        check.fails("root in the last chain that is there", STATE, () -> z.root());
        check.is("a bulletin has the next number", p, z.send(1));
    }

    private static void rootOfTheLastChain() {
        BulletinOffice x = withChains(8, 0, 0, 0);
        x.tick(447);
        check.answers("root in interval 448", 0, () -> x.root());
        x.tick(1);
        check.fails("root in interval 449", STATE, () -> x.root());
    }

    private static void packet() {
        BulletinOffice x = withChains(1, 0, 0, 0);
        check.fails("packet 0 without packets", INDEX, () -> x.packet(0, 0));
        x.load(0, 0x80ff017f);
        x.send(4);
        check.is("packet byte", 0x80, x.packet(0, 6));
        check.is("packet byte", 0xff, x.packet(0, 7));
        check.is("packet byte", 0x01, x.packet(0, 8));
        check.is("packet byte", 0x7f, x.packet(0, 9));
        check.answers("the last byte", 0, () -> x.packet(0, 39));
        for (int i : new int[] {-1, 40, Integer.MIN_VALUE, Integer.MAX_VALUE}) {
            check.fails("packet byte " + i, INDEX, () -> x.packet(0, i));
        }
        for (int p : new int[] {-1, 1, Integer.MIN_VALUE, Integer.MAX_VALUE}) {
            check.fails("packet " + p, INDEX, () -> x.packet(p, 0));
        }
        x.load(0, 0);
        check.is("a packet stays when the buffer changes", 0x80, x.packet(0, 6));
    }

    private static void key() {
        BulletinOffice x = new BulletinOffice(0, 0, 0);
        check.fails("key of 0 without a chain", STATE, () -> x.key(0, 0));
        check.fails("key of 64 without a chain", STATE, () -> x.key(64, 0));
        for (int g : new int[] {-1, 513, Integer.MIN_VALUE, Integer.MAX_VALUE}) {
            check.fails("key of " + g, INDEX, () -> x.key(g, 0));
        }
        for (int i : new int[] {-1, 20, Integer.MIN_VALUE, Integer.MAX_VALUE}) {
            check.fails("key byte " + i, INDEX, () -> x.key(1, i));
        }
        BulletinOffice y = withChains(1, 0, 0, 0);
        for (int i = 0; i < 20; i++) {
            check.is("key of 0", Crypto.down(topKey(0), 64)[i] & 255, y.key(0, i));
            check.is("key of 64 by the chain before", topKey(0)[i] & 255, y.key(64, i));
        }
        check.fails("key of 65", STATE, () -> y.key(65, 0));
        check.fails("key of 128", STATE, () -> y.key(128, 0));
        check.fails("key of 512", STATE, () -> y.key(512, 0));
        BulletinOffice z = withChains(2, 0, 0, 0);
        for (int i = 0; i < 20; i++) {
            check.is("key of 64 as a root", Crypto.down(topKey(1), 64)[i] & 255, z.key(64, i));
            check.is("key of 128 by the chain before", topKey(1)[i] & 255, z.key(128, i));
        }
    }

    private static void keyOfEightChains() {
        BulletinOffice x = withChains(8, 0, 0, 0);
        for (int g = 1; g < 512; g++) {
            byte[] due = g % 64 == 0 ? Crypto.down(topKey(g / 64), 64) : keyOf(g);
            check.is("key of " + g, due[g % 20] & 255, x.key(g, g % 20));
        }
        check.is("key of 512", topKey(7)[3] & 255, x.key(512, 3));
        check.is("key of 512", topKey(7)[12] & 255, x.key(512, 12));
    }

    private static void count() {
        BulletinOffice x = withChains(2, 0, 9, 0);
        x.tick(9);
        check.is("interval 1", 1, x.count(1));
        x.tick(1);
        x.send(0);
        x.root();
        x.send(3);
        check.is("time", 10, x.count(0));
        check.is("interval", 2, x.count(1));
        check.is("chains", 2, x.count(2));
        check.is("packets", 3, x.count(3));
        for (int what : new int[] {-1, 4, 5, Integer.MIN_VALUE, Integer.MAX_VALUE}) {
            check.is("count " + what, BulletinOffice.NONE, x.count(what));
        }
    }
}
