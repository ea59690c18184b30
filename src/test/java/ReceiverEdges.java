/** The boundary cases that promises 10 to 15 name: the receivers' side. */
final class ReceiverEdges {
    private static final int LEAST = Integer.MIN_VALUE;
    private static final int MOST = Integer.MAX_VALUE;

    private static final Class<IllegalArgumentException> ARGUMENT = IllegalArgumentException.class;
    private static final Class<IllegalStateException> STATE = IllegalStateException.class;
    private static final Class<IndexOutOfBoundsException> INDEX = IndexOutOfBoundsException.class;

    private static final int[] NO_RECEIVERS = {-1, 8, LEAST, MOST};

    private final Check check;
    private final Sentences doc;

    ReceiverEdges(Check check, Sentences doc) {
        this.check = check;
        this.doc = doc;
    }

    void all() {
        join();
        joinRefused();
        drift();
        arrive();
        arriveRefused();
        receiver();
        released();
        releasedByte();
    }

    private void join() {
        doc.sentence(10, "A receiver begins anew: it holds and has released nothing, counts are 0", () -> {
            for (Scene scene : new Scene[] {Scene.FULL, Scene.BUSY, Scene.MANY_RELEASED}) {
                Office x = scene.make();
                x.join(0, 0);
                x.join(4, 0);
                alikeReceivers(x, 0, 4, scene.toString());
                check.fails(scene + ", released", INDEX, () -> x.released(0, 0, 0));
                int all = x.count(3);
                for (int p = all - 1; p >= Math.max(0, all - 20); p--) {
                    check.is(scene + ", arrival of " + p, x.arrive(4, p, 0, 0), x.arrive(0, p, 0, 0));
                }
                alikeReceivers(x, 0, 4, scene + ", later");
            }
            Office x = Scene.FULL.make();
            x.join(0, 0);
            for (int what = 0; what <= Told.HOLDS; what++) {
                check.is("what " + what, 0, x.receiver(0, what));
            }
            for (int p = 0; p < 16; p++) {
                check.is("there is room again", Told.HELD, x.arrive(0, p, 0, 0));
            }
        });
        doc.sentence(10, "and knows just the key of an interval g, by its chain (of 0, 64, ..: as the root)", () -> {
            Office x = Scene.office(8, 1, 10, 0);
            x.tick(4480);
            int p = x.send(0);
            x.tick(10);
            int q = x.send(0);
            x.drift(3, -100);
            for (int g : new int[] {0, 1, 63, 64, 65, 127, 128, 447, 448, 449, 510, 511}) {
                x.join(3, g);
                check.is("latest after join at " + g, g, x.receiver(3, Told.LATEST));
            }
            // packet p shows the key of 448, of chain 6, and packet q that of 449, of chain 7
            x.join(3, 448);
            check.is("not the last key of chain 6", Told.HELD, x.arrive(3, p, 20, 1));
            check.is("but the root of chain 7", Told.KEY, x.arrive(3, q, 20, 1));
            x.join(3, 447);
            check.is("not chain 7 any more", Told.HELD, x.arrive(3, q, 20, 1));
            check.is("but chain 6", Told.KEY, x.arrive(3, p, 20, 1));
        });
    }

    private void alikeReceivers(Office x, int r, int q, String what) {
        for (int w = 0; w <= Told.LATEST; w++) {
            check.is(what + ", what " + w, x.receiver(q, w), x.receiver(r, w));
        }
    }

    private void joinRefused() {
        doc.sentence(10, "IndexOutOfBoundsException, when there is no such receiver, or g is not 0 .. 511", () -> {
            for (int r : NO_RECEIVERS) {
                doc.refused("join of " + r, INDEX, x -> x.join(r, 0), Scene.BUSY);
            }
            for (int g : new int[] {-1, 512, -64, LEAST, MOST}) {
                doc.refused("join at " + g, INDEX, x -> x.join(0, g), Scene.FRESH, Scene.ALL_CHAINS);
                doc.refused("join of the last one at " + g, INDEX, x -> x.join(7, g), Scene.BUSY);
            }
        });
        doc.sentence(10, "IllegalStateException, when that chain is not there", () -> {
            for (int g : new int[] {0, 1, 63, 64, 511}) {
                doc.refused("join at " + g, STATE, x -> x.join(0, g), Scene.FRESH);
            }
            for (int g : new int[] {192, 193, 256, 511}) {
                doc.refused("join at " + g, STATE, x -> x.join(0, g), Scene.BUSY);
                doc.refused("join of another at " + g, STATE, x -> x.join(1, g), Scene.BUSY);
            }
            Office x = Scene.office(1);
            check.fails("as the root of a chain that is not there", STATE, () -> x.join(0, 64));
            x.chain(1, 2, 3, 4, 5);
            x.join(0, 64);
            check.is("as the root of one that is", 64, x.receiver(0, Told.LATEST));
        });
    }

    private void drift() {
        doc.sentence(11, "A receiver's drift: the one before", () -> {
            Office x = Scene.office(0);
            for (int r = 0; r < 8; r++) {
                check.is("at first", 0, x.drift(r, 10000));
                check.is("the most", 10000, x.drift(r, -10000));
                check.is("the least", -10000, x.drift(r, r));
            }
            for (int r = 0; r < 8; r++) {
                check.is("each its own", r, x.drift(r, r));
            }
        });
        doc.sentence(11, "IndexOutOfBoundsException, when there is no such receiver", () -> {
            for (int r : NO_RECEIVERS) {
                doc.refused("drift of " + r, INDEX, x -> x.drift(r, 1), Scene.FRESH, Scene.BUSY);
            }
        });
        doc.sentence(11, "IllegalArgumentException, when it is not -10000 .. 10000", () -> {
            for (int drift : new int[] {-10001, 10001, LEAST, MOST}) {
                doc.refused("drift by " + drift, ARGUMENT, x -> x.drift(0, drift), Scene.FRESH, Scene.BUSY);
                doc.refused("drift of 1 by " + drift, ARGUMENT, x -> x.drift(1, drift), Scene.BUSY);
            }
        });
    }

    private void arrive() {
        doc.sentence(12, "A copy of a packet arrives, with byte i exclusive or mask (0: as it is)", () -> {
            Office x = Scene.office(1, 1, 10, 0);
            x.join(0, 0);
            x.load(0, 0x55000000);
            x.send(1);
            check.is("byte 0 as it is", Told.HELD, x.arrive(0, 0, 0, 0));
            check.is("the last byte as it is", Told.TWICE, x.arrive(0, 0, 36, 0));
            check.is("the last byte, all bits", Told.TWICE, x.arrive(0, 0, 36, 255));
            check.is("byte 0, all bits", Told.BROKEN, x.arrive(0, 0, 0, 255));
            check.is("byte 0, the highest bit", Told.BROKEN, x.arrive(0, 0, 0, 128));
            check.is("a byte of the code, the lowest bit", Told.HELD, x.arrive(0, 0, 16, 1));
            check.is("that again", Told.TWICE, x.arrive(0, 0, 16, 1));
            check.is("another bit", Told.HELD, x.arrive(0, 0, 16, 2));
            check.is("the packet itself stays", 0, x.packet(0, 36));
            check.is("its first byte too", 0, x.packet(0, 0));
            x.tick(10);
            check.is("a key", Told.HELD, x.arrive(0, x.send(0), 0, 0));
            check.is("released", 1, x.receiver(0, Told.RELEASED));
            check.is("wrong codes", 2, x.receiver(0, Told.CODE));
            check.is("the byte as it was sent", 0x55, x.releasedByte(0, 0, 0));
        });
        doc.sentence(12, "0 to 5 as told", () -> {
            Office x = Scene.FULL.make();
            int p = x.send(20);
            x.tick(10);
            int q = x.send(1);
            x.tick(10);
            int shows = x.send(2);
            check.is("broken", Told.BROKEN, x.arrive(0, shows, 4, 7));
            check.is("a wrong key", Told.KEY, x.arrive(0, shows, 37, 1));
            check.is("held by another", Told.HELD, x.arrive(1, q, 0, 0));
            check.is("twice", Told.TWICE, x.arrive(1, q, 0, 0));
            check.is("full", Told.FULL, x.arrive(0, q, 0, 0));
            check.is("late", Told.LATE, x.arrive(0, p, 0, 0));
        });
    }

    private void arriveRefused() {
        doc.sentence(12, "IndexOutOfBoundsException, when there is no such receiver, packet or byte", () -> {
            doc.refused("packet 0", INDEX, x -> x.arrive(0, 0, 0, 0), Scene.FRESH);
            for (int r : NO_RECEIVERS) {
                doc.refused("arrive at " + r, INDEX, x -> x.arrive(r, 6, 0, 0), Scene.BUSY);
            }
            for (int p : new int[] {-1, 7, LEAST, MOST}) {
                doc.refused("arrive of " + p, INDEX, x -> x.arrive(0, p, 0, 0), Scene.BUSY);
            }
            doc.refused("arrive of 200", INDEX, x -> x.arrive(0, 200, 0, 0), Scene.ALL_PACKETS);
            // packet 6 has 5 bytes, packet 1 none
            for (int i : new int[] {-1, 41, LEAST, MOST}) {
                doc.refused("arrive with byte " + i, INDEX, x -> x.arrive(0, 6, i, 0), Scene.BUSY);
                doc.refused("arrive with byte " + i + " changed", INDEX, x -> x.arrive(3, 6, i, 1), Scene.BUSY);
            }
            doc.refused("arrive with byte 36 of 36", INDEX, x -> x.arrive(3, 1, 36, 0), Scene.BUSY);
        });
        doc.sentence(12, "IllegalArgumentException, when mask is not 0 .. 255", () -> {
            for (int mask : new int[] {-1, 256, 257, LEAST, MOST}) {
                doc.refused("arrive with mask " + mask, ARGUMENT, x -> x.arrive(0, 6, 0, mask), Scene.BUSY);
                doc.refused("another with mask " + mask, ARGUMENT, x -> x.arrive(4, 0, 39, mask), Scene.BUSY);
            }
        });
    }

    private void receiver() {
        doc.sentence(13, "how many copies came out as told (what 0 .. 5), codes that were wrong (6),", () -> {
            Office x = Scene.BUSY.make();
            int[] due = {6, 1, 1, 1, 0, 1, 1};
            for (int what = 0; what < due.length; what++) {
                check.is("receiver 0 what " + what, due[what], x.receiver(0, what));
                check.is("receiver 7 what " + what, 0, x.receiver(7, what));
            }
            Office full = Scene.FULL.make();
            check.is("those that were held", 16, full.receiver(0, Told.HELD));
            check.is("those for which there was no room", 2, full.receiver(0, Told.FULL));
        });
        doc.sentence(13, "packets released (7), held (8)", () -> {
            Office x = Scene.BUSY.make();
            check.is("released", 3, x.receiver(0, Told.RELEASED));
            check.is("held", 2, x.receiver(0, Told.HOLDS));
            check.is("none released", 0, x.receiver(3, Told.RELEASED));
            check.is("three held", 3, x.receiver(3, Told.HOLDS));
            check.is("16 held", 16, Scene.FULL.make().receiver(0, Told.HOLDS));
            check.is("more than 100 released", 111, Scene.MANY_RELEASED.make().receiver(0, Told.RELEASED));
        });
        doc.sentence(13, "the interval of the latest key it has of any chain (9; NONE without)", () -> {
            Office x = Scene.BUSY.make();
            check.is("one key was shown", 1, x.receiver(0, Told.LATEST));
            check.is("a root behind it", 64, x.receiver(1, Told.LATEST));
            check.is("it joined", 64, x.receiver(2, Told.LATEST));
            check.is("it holds, but never joined", Office.NONE, x.receiver(3, Told.LATEST));
            check.is("nothing came", Office.NONE, x.receiver(7, Told.LATEST));
            x.join(3, 0);
            check.is("interval 0", 0, x.receiver(3, Told.LATEST));
            Office last = Scene.LAST_TICK.make();
            check.is("by a packet of interval 512", 510, last.receiver(2, Told.LATEST));
        });
        doc.sentence(13, "IndexOutOfBoundsException, when there is no such receiver or what", () -> {
            for (int r : NO_RECEIVERS) {
                doc.refused("receiver " + r, INDEX, x -> x.receiver(r, 0), Scene.FRESH, Scene.BUSY);
            }
            for (int what : new int[] {-1, 10, LEAST, MOST}) {
                doc.refused("receiver 0 what " + what, INDEX, x -> x.receiver(0, what), Scene.FRESH, Scene.BUSY);
            }
        });
    }

    private void released() {
        doc.sentence(14, "Of the k-th packet that a receiver released (from 0; the first 100 are kept)", () -> {
            Office x = Scene.MANY_RELEASED.make();
            check.is("the first", 1, x.released(0, 0, 2));
            check.is("its interval", 1, x.released(0, 0, 0));
            // 15 of interval 1, then 16 of each second one, the first of these empty
            check.answers("the 15th", 15, () -> x.released(0, 14, 2));
            check.answers("the 16th", 0, () -> x.released(0, 15, 2));
            check.answers("the 100th", 4, () -> x.released(0, 99, 2));
            check.answers("its interval", 13, () -> x.released(0, 99, 0));
            check.fails("the 101st", INDEX, () -> x.released(0, 100, 0));
        });
        doc.sentence(14, "its interval (what 0), kind (1), n (2)", () -> {
            Office x = Scene.BUSY.make();
            int[] sizes = {4, 0, 20};
            for (int k = 0; k < 3; k++) {
                check.is("interval", 1, x.released(0, k, 0));
                check.is("kind", 0, x.released(0, k, 1));
                check.is("n", sizes[k], x.released(0, k, 2));
            }
            check.is("a root's kind", 1, x.released(1, 0, 1));
            check.is("a root's n", 20, x.released(1, 0, 2));
        });
        doc.sentence(14, "IndexOutOfBoundsException, when there is none, or no such what", () -> {
            for (int r : NO_RECEIVERS) {
                doc.refused("released of " + r, INDEX, x -> x.released(r, 0, 0), Scene.BUSY);
            }
            for (int k : new int[] {-1, 3, 99, 100, LEAST, MOST}) {
                doc.refused("released " + k, INDEX, x -> x.released(0, k, 0), Scene.BUSY);
            }
            doc.refused("released of one that holds alone", INDEX, x -> x.released(3, 0, 0), Scene.BUSY);
            doc.refused("released of a new one", INDEX, x -> x.released(0, 0, 0), Scene.FRESH);
            for (int k : new int[] {100, 101, 110, 111}) {
                doc.refused("released " + k, INDEX, x -> x.released(0, k, 0), Scene.MANY_RELEASED);
            }
            for (int what : new int[] {-1, 3, LEAST, MOST}) {
                doc.refused("released 0 what " + what, INDEX, x -> x.released(0, 0, what), Scene.BUSY);
            }
        });
    }

    private void releasedByte() {
        doc.sentence(15, "Byte i of its n bytes", () -> {
            Office x = Scene.BUSY.make();
            for (int i = 0; i < 4; i++) {
                check.is("byte " + i, i + 1, x.releasedByte(0, 0, i));
            }
            for (int i = 0; i < 20; i++) {
                check.is("byte " + i + " of 20", (i % 4 + 1) * (i / 4 + 1), x.releasedByte(0, 2, i));
                check.is("byte " + i + " of a root", Scene.rootOf(1)[i] & 255, x.releasedByte(1, 0, i));
            }
            Office many = Scene.MANY_RELEASED.make();
            check.answers("the last byte of the 100th", 0, () -> many.releasedByte(0, 99, 3));
        });
        doc.sentence(15, "IndexOutOfBoundsException, when there is none", () -> {
            for (int r : NO_RECEIVERS) {
                doc.refused("a byte of " + r, INDEX, x -> x.releasedByte(r, 0, 0), Scene.BUSY);
            }
            for (int k : new int[] {-1, 3, LEAST, MOST}) {
                doc.refused("a byte of " + k, INDEX, x -> x.releasedByte(0, k, 0), Scene.BUSY);
            }
            for (int i : new int[] {-1, 4, LEAST, MOST}) {
                doc.refused("byte " + i + " of 4", INDEX, x -> x.releasedByte(0, 0, i), Scene.BUSY);
            }
            doc.refused("byte 0 of none", INDEX, x -> x.releasedByte(0, 1, 0), Scene.BUSY);
            doc.refused("byte 20 of 20", INDEX, x -> x.releasedByte(0, 2, 20), Scene.BUSY);
            doc.refused("a byte of one that holds alone", INDEX, x -> x.releasedByte(3, 0, 0), Scene.BUSY);
            doc.refused("a byte of a new one", INDEX, x -> x.releasedByte(0, 0, 0), Scene.FRESH);
            doc.refused("byte 4 of the 100th", INDEX, x -> x.releasedByte(0, 99, 4), Scene.MANY_RELEASED);
            doc.refused("a byte of the 101st", INDEX, x -> x.releasedByte(0, 100, 0), Scene.MANY_RELEASED);
        });
    }
}
