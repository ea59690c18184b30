/** Promises 10 to 15: the receivers' side. */
public final class ReceiverTest {
    private static final Class<IllegalArgumentException> ARGUMENT = IllegalArgumentException.class;
    private static final Class<IllegalStateException> STATE = IllegalStateException.class;
    private static final Class<IndexOutOfBoundsException> INDEX = IndexOutOfBoundsException.class;

    private static final int HELD = 0;
    private static final int LATE = 1;
    private static final int KEY = 2;
    private static final int TWICE = 3;
    private static final int FULL = 4;
    private static final int BROKEN = 5;
    private static final int CODE = 6;
    private static final int RELEASED = 7;
    private static final int HOLDS = 8;
    private static final int LATEST = 9;

    private static final int[] NO_RECEIVERS = {-1, 8, Integer.MIN_VALUE, Integer.MAX_VALUE};

    private static final Check check = new Check();

    public static void main(String[] args) {
        joinWrongInputs();
        joinKnowsOneKey();
        joinBeginsAnew();
        drift();
        driftMovesTheLimit();
        arriveWrongInputs();
        brokenCopies();
        intervalsAtTheEdge();
        kindsThatAreTurned();
        brokenIsNotLookedAtFurther();
        wrongKeys();
        keysThatAreNotLookedAt();
        lateByTime();
        lateByKey();
        twice();
        full();
        releaseOrder();
        wrongCodes();
        releaseComesBeforeTheCopyIsLate();
        rootsMakeChainsKnown();
        rootOfAKnownChain();
        unknownChainIsHeld();
        receiver();
        released();
        onlyAHundredAreKept();
        check.end("ReceiverTest");
    }

    private static BulletinOffice office(int chains, int lag, int ticks, int error) {
        BulletinOffice x = new BulletinOffice(lag - 1, ticks - 1, error);
        for (int c = 0; c < chains; c++) {
            x.chain(c, 10 + c, 20 + c, 30 + c, 40 + c);
        }
        return x;
    }

    private static void toInterval(BulletinOffice x, int g, int ticks) {
        int n = (g - 1) * ticks - x.count(0);
        if (n > 0) {
            x.tick(n);
        }
    }

    private static void joinWrongInputs() {
        BulletinOffice x = office(1, 1, 1, 0);
        for (int r : NO_RECEIVERS) {
            check.fails("join of " + r, INDEX, () -> x.join(r, 0));
            check.fails("join of " + r + " without a chain", INDEX, () -> x.join(r, 100));
        }
        for (int g : new int[] {-1, 512, Integer.MIN_VALUE, Integer.MAX_VALUE}) {
            check.fails("join at " + g, INDEX, () -> x.join(0, g));
        }
        for (int g : new int[] {64, 65, 128, 511}) {
            check.fails("join at " + g + " without the chain", STATE, () -> x.join(0, g));
        }
        check.is("nothing known after wrong joins", BulletinOffice.NONE, x.receiver(0, LATEST));
    }

    private static void joinKnowsOneKey() {
        BulletinOffice x = office(8, 1, 1, 0);
        for (int g : new int[] {0, 1, 63, 64, 65, 127, 128, 448, 511}) {
            x.join(g % 8, g);
            check.is("latest after join at " + g, g, x.receiver(g % 8, LATEST));
        }
        // the key of interval 64 is of chain 0; one that joins at 64 knows the root of chain 1 alone
        x.join(0, 64);
        toInterval(x, 65, 1);
        x.send(0);
        check.is("a wrong key of a chain that is not known", HELD, x.arrive(0, 0, 20, 1));
        x.join(0, 63);
        check.is("a wrong key of a chain that is known", KEY, x.arrive(0, 0, 20, 1));
        check.is("the right key", HELD, x.arrive(0, 0, 20, 0));
        check.is("latest", 64, x.receiver(0, LATEST));
        toInterval(x, 66, 1);
        x.send(0);
        x.join(1, 64);
        check.is("a key checked by a root", HELD, x.arrive(1, 1, 0, 0));
        check.is("latest above a root", 65, x.receiver(1, LATEST));
    }

    private static void joinBeginsAnew() {
        BulletinOffice x = office(1, 1, 1, 0);
        x.join(0, 0);
        x.drift(0, -3);
        x.send(0);
        x.arrive(0, 0, 0, 0);
        x.arrive(0, 0, 0, 0);
        x.arrive(0, 0, 4, 8);
        toInterval(x, 2, 1);
        x.send(1);
        x.arrive(0, 1, 0, 0);
        check.is("released before", 1, x.receiver(0, RELEASED));
        check.is("held before", 1, x.receiver(0, HOLDS));
        x.join(0, 0);
        for (int what = 0; what < LATEST; what++) {
            check.is("count " + what + " after join", 0, x.receiver(0, what));
        }
        check.is("latest after join", 0, x.receiver(0, LATEST));
        check.fails("released after join", INDEX, () -> x.released(0, 0, 0));
        check.is("a copy after join is not one that is held twice", HELD, x.arrive(0, 1, 0, 0));
        check.is("the drift stays", -3, x.drift(0, 0));
    }

    private static void drift() {
        BulletinOffice x = office(1, 1, 1, 0);
        check.is("drift at first", 0, x.drift(3, 10000));
        check.is("drift", 10000, x.drift(3, -10000));
        check.is("drift", -10000, x.drift(3, 5));
        check.is("drift of another one", 0, x.drift(4, 1));
        for (int drift : new int[] {-10001, 10001, Integer.MIN_VALUE, Integer.MAX_VALUE}) {
            check.fails("drift by " + drift, ARGUMENT, () -> x.drift(3, drift));
            check.fails("drift of none by " + drift, INDEX, () -> x.drift(8, drift));
        }
        for (int r : NO_RECEIVERS) {
            check.fails("drift of " + r, INDEX, () -> x.drift(r, 0));
        }
        check.is("drift after wrong ones", 5, x.drift(3, 5));
    }

    private static void driftMovesTheLimit() {
        BulletinOffice x = office(1, 2, 10, 3);
        x.send(0);
        // late from time + drift + 3 = 20 on
        x.drift(0, 16);
        check.is("a clock that is just not too far ahead", HELD, x.arrive(0, 0, 0, 0));
        x.drift(1, 17);
        check.is("a clock that is too far ahead", LATE, x.arrive(1, 0, 0, 0));
        x.tick(25);
        x.drift(2, -9);
        check.is("a clock that is far enough behind", HELD, x.arrive(2, 0, 0, 0));
        x.drift(3, -8);
        check.is("a clock that is not far enough behind", LATE, x.arrive(3, 0, 0, 0));
    }

    private static void arriveWrongInputs() {
        BulletinOffice x = office(1, 1, 1, 0);
        check.fails("arrive without packets", INDEX, () -> x.arrive(0, 0, 0, 0));
        x.send(2);
        for (int r : NO_RECEIVERS) {
            check.fails("arrive at " + r, INDEX, () -> x.arrive(r, 0, 0, 0));
        }
        for (int p : new int[] {-1, 1, Integer.MIN_VALUE, Integer.MAX_VALUE}) {
            check.fails("arrive of " + p, INDEX, () -> x.arrive(0, p, 0, 0));
        }
        for (int i : new int[] {-1, 38, Integer.MIN_VALUE, Integer.MAX_VALUE}) {
            check.fails("arrive with byte " + i, INDEX, () -> x.arrive(0, 0, i, 0));
            check.fails("arrive with byte " + i + " and a wrong mask", INDEX, () -> x.arrive(0, 0, i, -1));
        }
        for (int mask : new int[] {-1, 256, Integer.MIN_VALUE, Integer.MAX_VALUE}) {
            check.fails("arrive with mask " + mask, ARGUMENT, () -> x.arrive(0, 0, 0, mask));
        }
        for (int what = 0; what < LATEST; what++) {
            check.is("count " + what + " after wrong arrivals", 0, x.receiver(0, what));
        }
        check.answers("arrive with the last byte", HELD, () -> x.arrive(0, 0, 37, 255));
        check.is("the packet is as it was", 0, x.packet(0, 37));
    }

    private static void brokenCopies() {
        BulletinOffice x = office(2, 1, 1, 0);
        x.send(4);
        x.root();
        x.send(32);
        check.is("interval below 1", BROKEN, x.arrive(0, 0, 3, 1));
        check.is("interval far below", BROKEN, x.arrive(0, 0, 0, 128));
        check.is("interval 513", BROKEN, x.arrive(0, 0, 2, 2));
        check.is("interval far above", BROKEN, x.arrive(0, 0, 1, 1));
        check.is("kind 2", BROKEN, x.arrive(0, 0, 4, 2));
        check.is("kind 255", BROKEN, x.arrive(0, 0, 4, 255));
        check.is("a root of 4", BROKEN, x.arrive(0, 0, 4, 1));
        check.is("a root of kind 3", BROKEN, x.arrive(0, 1, 4, 2));
        check.is("n not as long as it is", BROKEN, x.arrive(0, 0, 5, 1));
        check.is("n 33", BROKEN, x.arrive(0, 2, 5, 1));
        check.is("n 0 of a root", BROKEN, x.arrive(0, 1, 5, 20));
        check.is("broken ones", 11, x.receiver(0, BROKEN));
        check.is("held ones", 0, x.receiver(0, HOLDS));
    }

    private static void intervalsAtTheEdge() {
        BulletinOffice x = office(5, 1, 1, 0);
        toInterval(x, 256, 1);
        x.send(0);
        check.is("interval 512 is none that is broken", HELD, x.arrive(0, 0, 2, 3));
        check.is("interval 768 is broken", BROKEN, x.arrive(0, 0, 2, 2));
        check.is("interval 0 is broken", BROKEN, x.arrive(0, 0, 2, 1));
        toInterval(x, 257, 1);
        x.send(0);
        check.is("interval 1 is none that is broken", LATE, x.arrive(0, 1, 2, 1));
    }

    private static void kindsThatAreTurned() {
        BulletinOffice x = office(2, 1, 1, 0);
        x.join(0, 0);
        x.send(20);
        x.root();
        check.is("a bulletin of 20 as a root", HELD, x.arrive(0, 0, 4, 1));
        check.is("a root as a bulletin", HELD, x.arrive(0, 1, 4, 1));
        toInterval(x, 2, 1);
        x.send(0);
        x.arrive(0, 2, 0, 0);
        check.is("their codes are wrong", 2, x.receiver(0, CODE));
        check.is("none is released", 0, x.receiver(0, RELEASED));
        check.is("the root of chain 1 is not known by that", 1, x.receiver(0, LATEST));
    }

    private static void brokenIsNotLookedAtFurther() {
        BulletinOffice x = office(1, 1, 1, 0);
        x.join(0, 0);
        toInterval(x, 2, 1);
        x.send(0);
        check.is("broken, with a right key", BROKEN, x.arrive(0, 0, 4, 2));
        check.is("that key is not taken", 0, x.receiver(0, LATEST));
    }

    private static void wrongKeys() {
        BulletinOffice x = office(1, 2, 1, 0);
        x.join(0, 0);
        toInterval(x, 5, 1);
        x.send(0);
        for (int i = 16; i < 36; i++) {
            check.is("a new key, byte " + i + " wrong", KEY, x.arrive(0, 0, i, 128));
        }
        check.is("latest after wrong keys", 0, x.receiver(0, LATEST));
        check.is("held after wrong keys", 0, x.receiver(0, HOLDS));
        check.is("the right key", HELD, x.arrive(0, 0, 0, 0));
        check.is("latest", 3, x.receiver(0, LATEST));
        for (int i = 16; i < 36; i++) {
            check.is("the latest key, byte " + i + " wrong", KEY, x.arrive(0, 0, i, 1));
        }
        // the copy's interval is turned, so that it shows the key of 3 as that of another one
        check.is("a later interval's key, wrong", KEY, x.arrive(0, 0, 3, 5 ^ 20));
        check.is("latest after a wrong later key", 3, x.receiver(0, LATEST));
        check.is("an earlier interval's key, wrong", KEY, x.arrive(0, 0, 3, 5 ^ 4));
        check.is("wrong keys", 42, x.receiver(0, KEY));
        toInterval(x, 4 + 64, 1);
        check.is("the latest key again, in the past", LATE, x.arrive(0, 0, 0, 0));

        BulletinOffice y = office(1, 1, 1, 0);
        toInterval(y, 3, 1);
        y.send(0);
        toInterval(y, 64, 1);
        y.send(0);
        y.join(0, 0);
        check.is("a key 63 steps above", HELD, y.arrive(0, 1, 0, 0));
        check.is("latest", 63, y.receiver(0, LATEST));
        check.is("a key 61 steps below, wrong", KEY, y.arrive(0, 0, 16, 1));
        check.is("a key 61 steps below, right", LATE, y.arrive(0, 0, 0, 0));
    }

    private static void keysThatAreNotLookedAt() {
        BulletinOffice x = office(1, 2, 1, 0);
        x.send(0);
        toInterval(x, 2, 1);
        x.send(0);
        x.join(0, 0);
        check.is("interval 2 with lag 2 shows none", HELD, x.arrive(0, 1, 30, 1));
        toInterval(x, 7, 1);
        x.send(0);
        x.join(0, 6);
        check.is("a key before the first, wrong", HELD, x.arrive(0, 2, 30, 1));
        x.join(0, 5);
        check.is("the first key, wrong", KEY, x.arrive(0, 2, 30, 1));
        check.is("the first key, right", HELD, x.arrive(0, 2, 30, 0));
        check.is("nothing known, wrong", HELD, x.arrive(1, 2, 30, 1));
        check.is("nothing known: no latest", BulletinOffice.NONE, x.receiver(1, LATEST));
    }

    private static void lateByTime() {
        BulletinOffice x = office(1, 3, 10, 4);
        toInterval(x, 2, 10);
        x.send(0);
        // late from time + 4 = (2 + 3 - 1) * 10 on
        x.tick(25);
        check.is("just in time", HELD, x.arrive(0, 0, 0, 0));
        x.tick(1);
        check.is("just late", LATE, x.arrive(1, 0, 0, 0));
        check.is("late comes before twice", LATE, x.arrive(0, 0, 0, 0));
        check.is("late ones", 1, x.receiver(1, LATE));
    }

    private static void lateByKey() {
        BulletinOffice x = office(1, 1, 1, 0);
        for (int g = 1; g <= 4; g++) {
            toInterval(x, g, 1);
            x.send(0);
        }
        x.drift(0, -1000);
        x.join(0, 3);
        check.is("its key is the latest", LATE, x.arrive(0, 2, 0, 0));
        check.is("its key is before the latest", LATE, x.arrive(0, 1, 0, 0));
        check.is("its key is behind the latest", HELD, x.arrive(0, 3, 0, 0));
        x.join(0, 0);
        check.is("not late by time", HELD, x.arrive(0, 1, 0, 0));
        check.is("a new key", HELD, x.arrive(0, 3, 0, 0));
        check.is("released", 1, x.receiver(0, RELEASED));
        check.is("a copy of one that was released", LATE, x.arrive(0, 1, 0, 0));
    }

    private static void twice() {
        BulletinOffice x = office(1, 1, 1, 0);
        x.send(4);
        x.load(0, 7);
        x.send(4);
        x.send(4);
        check.is("the first", HELD, x.arrive(0, 0, 0, 0));
        check.is("the same", TWICE, x.arrive(0, 0, 0, 0));
        check.is("other bytes, the same code", TWICE, x.arrive(0, 0, 7, 9));
        for (int i = 10; i < 20; i++) {
            check.is("the same bytes, code byte " + i + " other", HELD, x.arrive(0, 0, i, 3));
        }
        check.is("the same wrong code", TWICE, x.arrive(0, 0, 19, 3));
        check.is("the same code, another interval", HELD, x.arrive(0, 0, 3, 3));
        check.is("another bulletin", HELD, x.arrive(0, 1, 0, 0));
        check.is("a bulletin sent again", TWICE, x.arrive(0, 2, 0, 0));
        check.is("at another receiver", HELD, x.arrive(1, 0, 0, 0));
        check.is("twice", 4, x.receiver(0, TWICE));
        check.is("held", 13, x.receiver(0, HOLDS));
    }

    private static void full() {
        BulletinOffice x = office(1, 1, 1, 0);
        x.join(0, 0);
        for (int p = 0; p < 18; p++) {
            x.send(p);
        }
        for (int p = 0; p < 16; p++) {
            check.is("arrival " + p, HELD, x.arrive(0, p, 0, 0));
        }
        check.is("the 17th", FULL, x.arrive(0, 16, 0, 0));
        check.is("twice comes before full", TWICE, x.arrive(0, 3, 0, 0));
        check.is("the 17th again", FULL, x.arrive(0, 16, 0, 0));
        check.is("full", 2, x.receiver(0, FULL));
        check.is("held", 16, x.receiver(0, HOLDS));
        toInterval(x, 2, 1);
        x.send(0);
        check.is("the releases make room", HELD, x.arrive(0, 18, 0, 0));
        check.is("released", 16, x.receiver(0, RELEASED));
        check.is("held", 1, x.receiver(0, HOLDS));
    }

    private static void releaseOrder() {
        BulletinOffice x = office(1, 4, 1, 0);
        int[] intervals = {1, 1, 2, 2, 3, 3, 4};
        for (int p = 0; p < intervals.length; p++) {
            toInterval(x, intervals[p], 1);
            x.send(p);
        }
        x.join(0, 0);
        for (int p : new int[] {6, 5, 3, 1, 2, 4, 0}) {
            check.is("arrival of " + p, HELD, x.arrive(0, p, 0, 0));
        }
        toInterval(x, 7, 1);
        x.send(10);
        check.is("the key of interval 3", HELD, x.arrive(0, 7, 0, 0));
        int[] due = {1, 0, 3, 2, 5, 4};
        check.is("released", due.length, x.receiver(0, RELEASED));
        for (int k = 0; k < due.length; k++) {
            check.is("interval of release " + k, intervals[due[k]], x.released(0, k, 0));
            check.is("n of release " + k, due[k], x.released(0, k, 2));
        }
        check.is("held", 2, x.receiver(0, HOLDS));
    }

    private static void wrongCodes() {
        BulletinOffice x = office(1, 1, 1, 0);
        x.join(0, 0);
        x.load(0, 0x01020304);
        x.send(4);
        check.is("a byte wrong", HELD, x.arrive(0, 0, 6, 1));
        check.is("the right one with the same code", TWICE, x.arrive(0, 0, 0, 0));
        for (int i = 10; i < 20; i++) {
            check.is("code byte " + i + " wrong", HELD, x.arrive(0, 0, i, 1));
        }
        toInterval(x, 2, 1);
        x.send(4);
        check.is("no shown key with interval 3 instead of 2", KEY, x.arrive(0, 1, 3, 1));
        check.is("the key", HELD, x.arrive(0, 1, 0, 0));
        check.is("wrong codes", 11, x.receiver(0, CODE));
        check.is("released", 0, x.receiver(0, RELEASED));
        check.is("held", 1, x.receiver(0, HOLDS));
        toInterval(x, 3, 1);
        x.send(4);
        x.arrive(0, 2, 0, 0);
        check.is("wrong codes, still", 11, x.receiver(0, CODE));
        check.is("released", 1, x.receiver(0, RELEASED));
        check.is("its byte", 4, x.releasedByte(0, 0, 3));
    }

    private static void releaseComesBeforeTheCopyIsLate() {
        BulletinOffice x = office(1, 1, 1, 0);
        x.join(0, 0);
        x.send(1);
        x.arrive(0, 0, 0, 0);
        toInterval(x, 2, 1);
        x.send(2);
        toInterval(x, 9, 1);
        check.is("a late copy", LATE, x.arrive(0, 1, 0, 0));
        check.is("its key is the latest", 1, x.receiver(0, LATEST));
        check.is("its key releases", 1, x.receiver(0, RELEASED));
        check.is("it is not held", 0, x.receiver(0, HOLDS));
    }

    private static void rootsMakeChainsKnown() {
        BulletinOffice x = office(3, 1, 1, 0);
        x.join(0, 0);
        toInterval(x, 63, 1);
        x.root();
        check.is("the root comes", HELD, x.arrive(0, 0, 0, 0));
        check.is("latest", 62, x.receiver(0, LATEST));
        toInterval(x, 64, 1);
        x.send(0);
        check.is("its key comes", HELD, x.arrive(0, 1, 0, 0));
        check.is("the root is released", 1, x.receiver(0, RELEASED));
        check.is("its kind", 1, x.released(0, 0, 1));
        check.is("its n", 20, x.released(0, 0, 2));
        for (int i = 0; i < 20; i++) {
            check.is("root byte " + i, x.key(64, i), x.releasedByte(0, 0, i));
        }
        check.is("the root is the latest key", 64, x.receiver(0, LATEST));
        toInterval(x, 66, 1);
        x.send(1);
        check.is("a wrong key of the new chain", KEY, x.arrive(0, 2, 17, 1));
        check.is("a right key of the new chain", HELD, x.arrive(0, 2, 0, 0));
        check.is("latest", 65, x.receiver(0, LATEST));
        toInterval(x, 130, 1);
        x.send(2);
        check.is("a key of chain 2, which is not known", HELD, x.arrive(0, 3, 18, 1));
        check.is("latest", 65, x.receiver(0, LATEST));
    }

    private static void rootOfAKnownChain() {
        BulletinOffice x = office(2, 1, 1, 0);
        x.join(0, 0);
        x.root();
        x.arrive(0, 0, 0, 0);
        toInterval(x, 2, 1);
        x.root();
        x.arrive(0, 1, 0, 0);
        check.is("chain 1 is known early", 64, x.receiver(0, LATEST));
        x.drift(0, -1000);
        toInterval(x, 70, 1);
        x.send(0);
        check.is("a key of chain 1", HELD, x.arrive(0, 2, 0, 0));
        check.is("latest", 69, x.receiver(0, LATEST));
        toInterval(x, 71, 1);
        check.is("the second root is still held", 2, x.receiver(0, HOLDS));
        BulletinOffice y = office(2, 1, 1, 0);
        y.join(0, 0);
        y.drift(0, -1000);
        y.root();
        toInterval(y, 2, 1);
        y.root();
        toInterval(y, 3, 1);
        y.send(0);
        toInterval(y, 70, 1);
        y.send(0);
        y.arrive(0, 0, 0, 0);
        y.arrive(0, 1, 0, 0);
        y.arrive(0, 3, 0, 0);
        check.is("latest in chain 1", 69, y.receiver(0, LATEST));
        y.arrive(0, 2, 0, 0);
        check.is("both roots are released", 2, y.receiver(0, RELEASED));
        check.is("the second takes nothing back", 69, y.receiver(0, LATEST));
        check.is("the second has the root of chain 1 too", y.key(64, 0), y.releasedByte(0, 1, 0));
    }

    private static void unknownChainIsHeld() {
        BulletinOffice x = office(2, 1, 1, 0);
        x.send(3);
        check.is("a receiver that never joined holds", HELD, x.arrive(5, 0, 0, 0));
        toInterval(x, 2, 1);
        x.send(3);
        check.is("and goes on", HELD, x.arrive(5, 1, 0, 0));
        check.is("held", 2, x.receiver(5, HOLDS));
        check.is("released", 0, x.receiver(5, RELEASED));

        // held while its chain is not known, released after a root and a key of that chain came
        BulletinOffice y = office(2, 3, 1, 0);
        y.join(0, 0);
        toInterval(y, 64, 1);
        y.root();
        y.arrive(0, 0, 0, 0);
        toInterval(y, 65, 1);
        y.send(9);
        check.is("a bulletin of chain 1", HELD, y.arrive(0, 1, 0, 0));
        toInterval(y, 67, 1);
        y.send(8);
        y.arrive(0, 2, 0, 0);
        check.is("the root is released", 1, y.receiver(0, RELEASED));
        toInterval(y, 68, 1);
        y.send(7);
        y.arrive(0, 3, 0, 0);
        check.is("the bulletin is released", 2, y.receiver(0, RELEASED));
        check.is("its interval", 65, y.released(0, 1, 0));
        check.is("its n", 9, y.released(0, 1, 2));
    }

    private static void receiver() {
        BulletinOffice x = office(1, 1, 1, 0);
        x.send(4);
        for (int r : NO_RECEIVERS) {
            check.fails("receiver " + r, INDEX, () -> x.receiver(r, 0));
        }
        for (int what : new int[] {-1, 10, Integer.MIN_VALUE, Integer.MAX_VALUE}) {
            check.fails("receiver's " + what, INDEX, () -> x.receiver(0, what));
        }
        x.arrive(7, 0, 0, 0);
        x.arrive(7, 0, 0, 0);
        x.arrive(7, 0, 0, 0);
        x.arrive(7, 0, 4, 4);
        int[] due = {1, 0, 0, 2, 0, 1, 0, 0, 1, BulletinOffice.NONE};
        for (int what = 0; what < due.length; what++) {
            check.is("receiver 7's " + what, due[what], x.receiver(7, what));
            check.is("receiver 6's " + what, what == 9 ? BulletinOffice.NONE : 0, x.receiver(6, what));
        }
    }

    private static void released() {
        BulletinOffice x = office(1, 1, 1, 0);
        x.join(2, 0);
        x.load(0, 0x80ff7f00);
        x.send(3);
        x.arrive(2, 0, 0, 0);
        toInterval(x, 2, 1);
        x.send(0);
        x.arrive(2, 1, 0, 0);
        toInterval(x, 3, 1);
        x.send(1);
        x.arrive(2, 2, 0, 0);
        check.is("interval", 1, x.released(2, 0, 0));
        check.is("kind", 0, x.released(2, 0, 1));
        check.is("n", 3, x.released(2, 0, 2));
        check.is("interval of the second", 2, x.released(2, 1, 0));
        check.is("n of the second", 0, x.released(2, 1, 2));
        check.is("byte 0", 0x80, x.releasedByte(2, 0, 0));
        check.is("byte 1", 0xff, x.releasedByte(2, 0, 1));
        check.is("byte 2", 0x7f, x.releasedByte(2, 0, 2));
        for (int r : NO_RECEIVERS) {
            check.fails("released of " + r, INDEX, () -> x.released(r, 0, 0));
            check.fails("releasedByte of " + r, INDEX, () -> x.releasedByte(r, 0, 0));
        }
        for (int k : new int[] {-1, 2, 100, Integer.MIN_VALUE, Integer.MAX_VALUE}) {
            check.fails("released " + k, INDEX, () -> x.released(2, k, 0));
            check.fails("releasedByte of " + k, INDEX, () -> x.releasedByte(2, k, 0));
        }
        for (int wrong : new int[] {-1, 3, Integer.MIN_VALUE, Integer.MAX_VALUE}) {
            check.fails("released, what " + wrong, INDEX, () -> x.released(2, 0, wrong));
            check.fails("releasedByte " + wrong, INDEX, () -> x.releasedByte(2, 0, wrong));
        }
        check.fails("releasedByte of an empty one", INDEX, () -> x.releasedByte(2, 1, 0));
        check.fails("released of another receiver", INDEX, () -> x.released(1, 0, 0));
    }

    private static void onlyAHundredAreKept() {
        BulletinOffice x = office(1, 1, 1, 0);
        x.join(0, 0);
        int p = 0;
        for (int g = 1; g <= 8; g++) {
            toInterval(x, g, 1);
            for (int n = 0; n < 15; n++) {
                x.send(n);
                x.arrive(0, p, 0, 0);
                p++;
            }
        }
        check.is("all are counted", 105, x.receiver(0, RELEASED));
        check.is("the 100th is kept", 99 / 15 + 1, x.released(0, 99, 0));
        check.is("the 100th is kept", 99 % 15, x.released(0, 99, 2));
        check.fails("the 101st is not", INDEX, () -> x.released(0, 100, 0));
        check.fails("nor its bytes", INDEX, () -> x.releasedByte(0, 100, 0));
        x.drift(0, -100);
        check.is("a copy of one that is not kept", LATE, x.arrive(0, 104, 0, 0));
    }
}
