import java.util.Arrays;

/** The boundary cases that promises 1 to 9 and 16 name: the sender's side. */
final class SenderEdges {
    private static final int LEAST = Integer.MIN_VALUE;
    private static final int MOST = Integer.MAX_VALUE;

    private static final Class<IllegalArgumentException> ARGUMENT = IllegalArgumentException.class;
    private static final Class<IllegalStateException> STATE = IllegalStateException.class;
    private static final Class<IndexOutOfBoundsException> INDEX = IndexOutOfBoundsException.class;
    private static final Class<UnsupportedOperationException> UNSUPPORTED =
            UnsupportedOperationException.class;

    private final Check check;
    private final Sentences doc;

    SenderEdges(Check check, Sentences doc) {
        this.check = check;
        this.doc = doc;
    }

    void all() {
        newObject();
        chain();
        tick();
        load();
        digest();
        send();
        root();
        packet();
        key();
        count();
    }

    private void newObject() {
        doc.sentence(1, "The sender's time is 0", () -> {
            Office x = new Office(3, 4, 5);
            check.is("time", 0, x.count(0));
            check.is("interval", 1, x.count(1));
        });
        doc.sentence(1, "no chains, no packets", () -> {
            Office x = new Office(3, 4, 5);
            check.is("chains", 0, x.count(2));
            check.is("packets", 0, x.count(3));
            check.fails("key 0", STATE, () -> x.key(0, 0));
            check.fails("packet 0", INDEX, () -> x.packet(0, 0));
        });
        doc.sentence(1, "receivers know nothing, drift 0", () -> {
            Office x = new Office(3, 4, 5);
            for (int r = 0; r < 8; r++) {
                for (int what = 0; what < 9; what++) {
                    check.is("receiver " + r + " what " + what, 0, x.receiver(r, what));
                }
                check.is("latest key of " + r, Office.NONE, x.receiver(r, Told.LATEST));
                check.is("drift of " + r, 0, x.drift(r, 1));
                int of = r;
                check.fails("released of " + r, INDEX, () -> x.released(of, 0, 0));
                check.fails("releasedByte of " + r, INDEX, () -> x.releasedByte(of, 0, 0));
            }
        });
        doc.sentence(1, "The lag is 1 more than lag modulo 8", () -> {
            int[][] cases = {{0, 1}, {1, 2}, {6, 7}, {7, 8}, {8, 1}, {15, 8}, {16, 1}, {MOST, 8}};
            for (int[] c : cases) {
                lagIs(c[0], c[1]);
            }
        });
        doc.sentence(1, "an interval has 1 more than ticks modulo 1000", () -> {
            int[][] cases = {{0, 1}, {1, 2}, {998, 999}, {999, 1000}, {1000, 1}, {1001, 2}, {1999, 1000},
                {MOST, 648}};
            for (int[] c : cases) {
                ticksAre(c[0], c[1]);
            }
        });
        doc.sentence(1, "ERROR is error modulo 10001", () -> {
            int[][] cases = {{0, 0}, {1, 1}, {9999, 9999}, {10000, 10000}, {10001, 0}, {10002, 1},
                {20001, 10000}, {MOST, 8921}};
            for (int[] c : cases) {
                errorIs(c[0], c[1]);
            }
        });
        doc.sentence(1, "(none of these is below 0)", () -> {
            int[][] lags = {{-1, 8}, {-7, 2}, {-8, 1}, {-9, 8}, {LEAST, 1}};
            for (int[] c : lags) {
                lagIs(c[0], c[1]);
            }
            int[][] ticks = {{-1, 1000}, {-999, 2}, {-1000, 1}, {-1001, 1000}, {LEAST, 353}};
            for (int[] c : ticks) {
                ticksAre(c[0], c[1]);
            }
            int[][] errors = {{-1, 10000}, {-10000, 1}, {-10001, 0}, {-10002, 10000}, {LEAST, 1079}};
            for (int[] c : errors) {
                errorIs(c[0], c[1]);
            }
        });
    }

    /** Known by the first interval whose packets show a key. */
    private void lagIs(int given, int lag) {
        Office x = new Office(given, 0, 0);
        x.chain(1, 2, 3, 4, 5);
        byte[] key1 = Crypto.down(Crypto.topKey(1, 2, 3, 4, 5), 63);
        if (lag > 1) {
            x.tick(lag - 1);
        }
        int p = x.send(0);
        x.tick(1);
        int q = x.send(0);
        for (int i = 0; i < 20; i++) {
            check.is("lag " + given + ", shown in interval " + lag, 0, x.packet(p, 16 + i));
            check.is("lag " + given + ", shown in the one behind", key1[i] & 255, x.packet(q, 16 + i));
        }
    }

    private void ticksAre(int given, int ticks) {
        Office x = new Office(0, given, 0);
        if (ticks > 1) {
            x.tick(ticks - 1);
        }
        check.is("ticks " + given + ", the last of interval 1", 1, x.count(1));
        x.tick(1);
        check.is("ticks " + given + ", the first of interval 2", 2, x.count(1));
    }

    /** With lag 1 and one tick a copy of interval 1 is late from time + drift + error = 1 on. */
    private void errorIs(int given, int error) {
        Office x = new Office(0, 0, given);
        x.chain(1, 2, 3, 4, 5);
        x.send(0);
        x.drift(0, -error);
        check.is("error " + given + ", in time", Told.HELD, x.arrive(0, 0, 0, 0));
        x.tick(1);
        x.drift(1, -error);
        check.is("error " + given + ", late", Told.LATE, x.arrive(1, 0, 0, 0));
    }

    private void chain() {
        doc.sentence(2, "Key 64 of the next chain: that one's number", () -> {
            Office x = new Office(0, 0, 0);
            int[][] words = {{0, 0, 0, 0, 0}, {-1, -1, -1, -1, -1}, {LEAST, MOST, 1, -1, 255}};
            for (int c = 0; c < 8; c++) {
                int[] w = words[c % 3];
                check.is("number", c, x.chain(w[0], w[1], w[2], w[3], w[4]));
                check.is("chains", c + 1, x.count(2));
                byte[] key = Crypto.topKey(w[0], w[1], w[2], w[3], w[4]);
                for (int i = 0; i < 20; i++) {
                    check.is("key 64 of chain " + c, key[i] & 255, x.key(64 * c + 64, i));
                }
            }
        });
        doc.sentence(2, "IllegalStateException, when there are eight", () -> {
            doc.refused("a ninth chain", STATE, x -> x.chain(1, 2, 3, 4, 5), Scene.ALL_CHAINS, Scene.LAST_TICK);
            Office x = Scene.office(7);
            check.answers("the eighth chain", 7, () -> x.chain(1, 2, 3, 4, 5));
            check.fails("the ninth chain", STATE, () -> x.chain(1, 2, 3, 4, 5));
        });
    }

    private void tick() {
        doc.sentence(3, "The sender's time is so much more (1 .. 100000): the time", () -> {
            Office x = new Office(0, 999, 0);
            check.answers("the least", 1, () -> x.tick(1));
            check.answers("the most", 100001, () -> x.tick(100000));
            check.answers("one less", 200000, () -> x.tick(99999));
            check.is("time", 200000, x.count(0));
        });
        doc.sentence(3, "IllegalArgumentException, when n is none of these", () -> {
            for (int n : new int[] {0, -1, 100001, LEAST, MOST}) {
                doc.refused("tick " + n, ARGUMENT, x -> x.tick(n), Scene.FRESH, Scene.BUSY, Scene.LAST_TICK);
            }
        });
        doc.sentence(3, "IllegalStateException, when it would be in an interval above 512", () -> {
            for (int n : new int[] {1, 2, 99999, 100000}) {
                doc.refused("tick " + n, STATE, x -> x.tick(n), Scene.LAST_TICK);
            }
            for (int n : new int[] {5120, 5121, 100000}) {
                doc.refused("tick " + n, STATE, x -> x.tick(n), Scene.FRESH);
            }
            Office x = Scene.FRESH.make();
            check.answers("to the end of interval 512", 5119, () -> x.tick(5119));
            check.is("the last interval", 512, x.count(1));
            Office y = new Office(0, 0, 0);
            check.answers("to interval 512 of one tick", 511, () -> y.tick(511));
            check.fails("to interval 513 of one tick", STATE, () -> y.tick(1));
            Office z = new Office(0, 999, 0);
            for (int i = 0; i < 5; i++) {
                z.tick(100000);
            }
            check.fails("to interval 513 of 1000 ticks", STATE, () -> z.tick(12000));
            check.answers("to interval 512 of 1000 ticks", 511999, () -> z.tick(11999));
            check.is("the last interval", 512, z.count(1));
        });
    }

    private void load() {
        doc.sentence(4, "Word i (0 .. 7) of the buffer (0 at first): the one before", () -> {
            Office x = new Office(0, 0, 0);
            for (int i = 0; i < 8; i++) {
                check.is("word " + i + " at first", 0, x.load(i, LEAST + i));
            }
            for (int i = 0; i < 8; i++) {
                check.is("word " + i, LEAST + i, x.load(i, MOST - i));
                check.is("word " + i + " then", MOST - i, x.load(i, 0));
            }
        });
        doc.sentence(4, "IndexOutOfBoundsException, when there is none", () -> {
            for (int i : new int[] {-1, 8, LEAST, MOST}) {
                doc.refused("load " + i, INDEX, x -> x.load(i, 77), Scene.FRESH, Scene.BUSY);
            }
        });
    }

    private void digest() {
        doc.sentence(5, "Word i (0 .. 7) of the digest of the buffer's first n bytes", () -> {
            Office x = new Office(0, 0, 0);
            byte[] buffer = Rows.fill(x, 12345);
            for (int n : new int[] {0, 1, 3, 4, 5, 31, 32}) {
                byte[] due = Crypto.digest(Arrays.copyOf(buffer, n));
                for (int i = 0; i < 8; i++) {
                    check.is("digest of " + n + " word " + i, Crypto.word(due, i), x.digest(n, i));
                }
            }
            int word = Crypto.word(buffer, 7);
            int before = x.digest(31, 0);
            x.load(7, word ^ 255);
            check.is("byte 31 is not among the first 31", before, x.digest(31, 0));
            x.load(7, word ^ 256);
            check.is("byte 30 is among the first 31", 0, before == x.digest(31, 0) ? 1 : 0);
        });
        doc.sentence(5, "IllegalArgumentException, when n is not 0 .. 32", () -> {
            for (int n : new int[] {-1, 33, LEAST, MOST}) {
                doc.refused("digest of " + n, ARGUMENT, x -> x.digest(n, 0), Scene.FRESH, Scene.BUSY);
            }
        });
        doc.sentence(5, "IndexOutOfBoundsException, when there is no such word", () -> {
            for (int i : new int[] {-1, 8, LEAST, MOST}) {
                doc.refused("digest word " + i, INDEX, x -> x.digest(32, i), Scene.FRESH, Scene.BUSY);
                doc.refused("digest of none, word " + i, INDEX, x -> x.digest(0, i), Scene.FRESH);
            }
        });
    }

    private void send() {
        doc.sentence(6, "A bulletin of the buffer's first n bytes in the present interval", () -> {
            for (int g : new int[] {1, 2, 64, 65, 448, 449, 512}) {
                Office x = Scene.office(8);
                byte[] buffer = Rows.fill(x, g);
                if (g > 1) {
                    x.tick(10 * g - 1);
                }
                for (int n : new int[] {0, 1, 31, 32}) {
                    Rows.packetIs(check, x, x.send(n), Rows.packet(g, 0, Arrays.copyOf(buffer, n), 2));
                }
            }
        });
        doc.sentence(6, "its packet's number, from 0 on", () -> {
            Office x = Scene.office(2);
            for (int p = 0; p < 200; p++) {
                check.is("number", p, p % 7 == 6 ? x.root() : x.send(p % 33));
            }
            check.is("packets", 200, x.count(3));
        });
        doc.sentence(6, "IllegalArgumentException, when n is not 0 .. 32", () -> {
            for (int n : new int[] {-1, 33, LEAST, MOST}) {
                doc.refused("send " + n, ARGUMENT, x -> x.send(n), Scene.BUSY, Scene.IN_THE_LAST_CHAIN);
            }
        });
        doc.sentence(6, "IllegalStateException, when the interval's chain is not there", () -> {
            for (int n : new int[] {0, 32}) {
                doc.refused("send " + n, STATE, x -> x.send(n), Scene.FRESH, Scene.BEHIND_THE_CHAINS);
            }
            Office x = Scene.office(1);
            x.tick(639);
            check.answers("the last tick of the chain's last interval", 0, () -> x.send(0));
            x.tick(1);
            check.fails("the first tick behind it", STATE, () -> x.send(0));
            x.chain(1, 2, 3, 4, 5);
            check.answers("with the next chain", 1, () -> x.send(0));
        });
        doc.sentence(6, "UnsupportedOperationException, when there are 200 packets", () -> {
            for (int n : new int[] {0, 32}) {
                doc.refused("send " + n, UNSUPPORTED, x -> x.send(n), Scene.ALL_PACKETS);
            }
        });
    }

    private void root() {
        doc.sentence(7, "A root packet in the present interval: its number", () -> {
            for (int g : new int[] {1, 2, 3, 64, 65, 128, 129, 448}) {
                Office x = Scene.office(8);
                if (g > 1) {
                    x.tick(10 * g - 1);
                }
                check.is("number", 0, x.root());
                Rows.packetIs(check, x, 0, Rows.packet(g, 1, Scene.rootOf((g - 1) / 64 + 1), 2));
                check.is("the next number", 1, x.root());
            }
        });
        doc.sentence(7, "IllegalStateException, when the interval's chain, or the one behind, is not there", () -> {
            doc.refused("root", STATE, x -> x.root(), Scene.FRESH, Scene.BEHIND_THE_CHAINS,
                    Scene.IN_THE_LAST_CHAIN, Scene.MANY_RELEASED, Scene.LAST_TICK);
            Office x = Scene.office(2);
            x.tick(639);
            check.answers("the last tick with a chain behind", 0, () -> x.root());
            x.tick(1);
            check.fails("the first tick without", STATE, () -> x.root());
            x.chain(1, 2, 3, 4, 5);
            check.answers("with the next chain", 1, () -> x.root());
        });
        doc.sentence(7, "UnsupportedOperationException, when there are 200 packets", () -> {
            doc.refused("root", UNSUPPORTED, x -> x.root(), Scene.ALL_PACKETS);
            Office x = Scene.office(2);
            for (int p = 0; p < 199; p++) {
                x.send(0);
            }
            check.answers("the 200th", 199, () -> x.root());
            check.fails("the 201st", UNSUPPORTED, () -> x.root());
        });
    }

    private void packet() {
        doc.sentence(8, "Byte i of a packet", () -> {
            Office x = Scene.office(1);
            x.load(0, 0x80ff017f);
            x.send(4);
            x.load(0, 0);
            x.send(0);
            check.is("the first byte", 0, x.packet(0, 0));
            int[] due = {0x80, 0xff, 0x01, 0x7f};
            for (int i = 0; i < 4; i++) {
                check.is("byte " + (6 + i) + ", after the buffer has changed", due[i], x.packet(0, 6 + i));
            }
            check.answers("the last byte", 0, () -> x.packet(0, 39));
            check.answers("the last byte of an empty one", 0, () -> x.packet(1, 35));
        });
        doc.sentence(8, "IndexOutOfBoundsException, when there is none", () -> {
            doc.refused("packet 0", INDEX, x -> x.packet(0, 0), Scene.FRESH);
            for (int p : new int[] {-1, 7, LEAST, MOST}) {
                doc.refused("packet " + p, INDEX, x -> x.packet(p, 0), Scene.BUSY);
            }
            doc.refused("packet 200", INDEX, x -> x.packet(200, 0), Scene.ALL_PACKETS);
            for (int i : new int[] {-1, 40, LEAST, MOST}) {
                doc.refused("byte " + i + " of 40", INDEX, x -> x.packet(0, i), Scene.BUSY);
            }
            doc.refused("byte 36 of 36", INDEX, x -> x.packet(1, 36), Scene.BUSY);
        });
    }

    private void keyIs(Office x, int g, byte[] due) {
        for (int i = 0; i < 20; i++) {
            check.is("key of " + g + " byte " + i, due[i] & 255, x.key(g, i));
        }
    }

    private void key() {
        doc.sentence(9, "Byte i (0 .. 19) of the key of an interval g (0 .. 512)", () -> {
            Office x = Scene.office(8);
            keyIs(x, 0, Scene.rootOf(0));
            for (int g : new int[] {1, 2, 63, 65, 127, 129, 449, 511, 512}) {
                keyIs(x, g, Scene.keyOf(g));
            }
        });
        doc.sentence(9, "IndexOutOfBoundsException, when there is no such byte or interval", () -> {
            for (int g : new int[] {-1, 513, -64, 576, LEAST, MOST}) {
                doc.refused("key of " + g, INDEX, x -> x.key(g, 0), Scene.FRESH, Scene.ALL_CHAINS);
            }
            for (int i : new int[] {-1, 20, LEAST, MOST}) {
                doc.refused("key of 1 byte " + i, INDEX, x -> x.key(1, i), Scene.BUSY);
                doc.refused("key of 512 byte " + i, INDEX, x -> x.key(512, i), Scene.ALL_CHAINS);
            }
        });
        doc.sentence(9, "IllegalStateException, when its chain is not there", () -> {
            for (int g : new int[] {0, 1, 64, 65, 512}) {
                doc.refused("key of " + g, STATE, x -> x.key(g, 0), Scene.FRESH);
            }
            for (int g : new int[] {193, 194, 256, 257, 511, 512}) {
                doc.refused("key of " + g, STATE, x -> x.key(g, 19), Scene.BUSY);
            }
            Office x = Scene.office(7);
            check.answers("the last of chain 6", Scene.topKey(6)[0] & 255, () -> x.key(448, 0));
            check.fails("the first of chain 7", STATE, () -> x.key(449, 0));
            check.fails("the last of chain 7", STATE, () -> x.key(512, 0));
        });
        doc.sentence(9, "(of 0, 64, 128, ..: the chain whose root it is said to be, if that is there;", () -> {
            Office x = Scene.office(8);
            for (int c = 0; c < 8; c++) {
                keyIs(x, 64 * c, Scene.rootOf(c));
            }
        });
        doc.sentence(9, "else the key 64 of the one before)", () -> {
            Office x = Scene.office(0);
            for (int c = 0; c < 8; c++) {
                x.chain(c, 10 + c, -20 - c, LEAST + c, 40 + c);
                keyIs(x, 64 * c + 64, Scene.topKey(c));
            }
        });
    }

    private void count() {
        doc.sentence(16, "The time (0), the present interval (1), chains (2), packets (3)", () -> {
            Office x = Scene.office(3);
            x.tick(9);
            check.is("time", 9, x.count(0));
            check.is("the last tick of interval 1", 1, x.count(1));
            x.tick(1);
            x.send(0);
            x.root();
            check.is("time", 10, x.count(0));
            check.is("the first tick of interval 2", 2, x.count(1));
            check.is("chains", 3, x.count(2));
            check.is("packets", 2, x.count(3));
            Office most = Scene.LAST_TICK.make();
            check.is("the most time", 5119, most.count(0));
            check.is("the last interval", 512, most.count(1));
            check.is("the most chains", 8, most.count(2));
            check.is("the most packets", 200, Scene.ALL_PACKETS.make().count(3));
        });
        doc.sentence(16, "NONE for another what", () -> {
            Office x = Scene.BUSY.make();
            for (int what : new int[] {-1, 4, 5, LEAST, MOST}) {
                check.answers("count " + what, Office.NONE, () -> x.count(what));
            }
        });
    }
}
