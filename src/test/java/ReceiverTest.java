/** Promises 10 to 15 in ordinary use: what receivers make of what comes. */
public final class ReceiverTest {
    private static final Class<IndexOutOfBoundsException> INDEX = IndexOutOfBoundsException.class;

    private static final Check check = new Check();

    private ReceiverTest() {
    }

    public static void main(String[] args) {
        joinBeginsAnew();
        driftMovesTheLimit();
        receiversAreApart();
        kindsThatAreTurned();
        wrongKeys();
        oldCopies();
        wrongCodes();
        severalRounds();
        rootsLeadFromChainToChain();
        unknownChains();
        whatWasReleased();
        check.end("ReceiverTest");
    }

    private static void joinBeginsAnew() {
        Office x = Scene.office(1, 1, 1, 0);
        x.join(0, 0);
        x.drift(0, -3);
        x.send(0);
        x.arrive(0, 0, 0, 0);
        x.arrive(0, 0, 0, 0);
        x.arrive(0, 0, 4, 8);
        x.tick(1);
        x.send(1);
        x.arrive(0, 1, 0, 0);
        check.is("released before", 1, x.receiver(0, Told.RELEASED));
        check.is("held before", 1, x.receiver(0, Told.HOLDS));
        x.join(0, 0);
        for (int what = 0; what < Told.LATEST; what++) {
            check.is("count " + what + " after join", 0, x.receiver(0, what));
        }
        check.is("latest after join", 0, x.receiver(0, Told.LATEST));
        check.fails("released after join", INDEX, () -> x.released(0, 0, 0));
        check.is("a copy after join is not one that is held twice", Told.HELD, x.arrive(0, 1, 0, 0));
        check.is("the drift stays", -3, x.drift(0, 0));
    }

    private static void driftMovesTheLimit() {
        Office x = Scene.office(1, 2, 10, 3);
        x.send(0);
        // late from time + drift + 3 = 20 on
        x.drift(0, 16);
        check.is("a clock that is just not too far ahead", Told.HELD, x.arrive(0, 0, 0, 0));
        x.drift(1, 17);
        check.is("a clock that is too far ahead", Told.LATE, x.arrive(1, 0, 0, 0));
        x.tick(25);
        x.drift(2, -9);
        check.is("a clock that is far enough behind", Told.HELD, x.arrive(2, 0, 0, 0));
        x.drift(3, -8);
        check.is("a clock that is not far enough behind", Told.LATE, x.arrive(3, 0, 0, 0));
    }

    private static void receiversAreApart() {
        Office x = Scene.office(1, 1, 1, 0);
        x.send(4);
        x.arrive(7, 0, 0, 0);
        x.arrive(7, 0, 0, 0);
        x.arrive(7, 0, 0, 0);
        x.arrive(7, 0, 4, 4);
        int[] due = {1, 0, 0, 2, 0, 1, 0, 0, 1, Office.NONE};
        for (int what = 0; what < due.length; what++) {
            check.is("receiver 7's " + what, due[what], x.receiver(7, what));
            check.is("receiver 6's " + what, what == 9 ? Office.NONE : 0, x.receiver(6, what));
        }
    }

    private static void kindsThatAreTurned() {
        Office x = Scene.office(2, 1, 1, 0);
        x.join(0, 0);
        x.send(20);
        x.root();
        check.is("a bulletin of 20 as a root", Told.HELD, x.arrive(0, 0, 4, 1));
        check.is("a root as a bulletin", Told.HELD, x.arrive(0, 1, 4, 1));
        x.tick(1);
        x.send(0);
        x.arrive(0, 2, 0, 0);
        check.is("their codes are wrong", 2, x.receiver(0, Told.CODE));
        check.is("none is released", 0, x.receiver(0, Told.RELEASED));
        check.is("the root of chain 1 is not known by that", 1, x.receiver(0, Told.LATEST));
    }

    private static void wrongKeys() {
        Office x = Scene.office(1, 2, 1, 0);
        x.join(0, 0);
        Scene.toInterval(x, 5, 1);
        x.send(0);
        check.is("a new key, wrong", Told.KEY, x.arrive(0, 0, 20, 128));
        check.is("latest after a wrong key", 0, x.receiver(0, Told.LATEST));
        check.is("the right key after a wrong one", Told.HELD, x.arrive(0, 0, 0, 0));
        check.is("latest", 3, x.receiver(0, Told.LATEST));
        // the copy's interval is turned, so that it shows the key of 3 as that of another one
        check.is("a later interval's key, wrong", Told.KEY, x.arrive(0, 0, 3, 5 ^ 20));
        check.is("latest after a wrong later key", 3, x.receiver(0, Told.LATEST));
        check.is("an earlier interval's key, wrong", Told.KEY, x.arrive(0, 0, 3, 5 ^ 4));
        check.is("wrong keys", 3, x.receiver(0, Told.KEY));
        Scene.toInterval(x, 8, 1);
        check.is("a key in between was skipped", Told.HELD, x.arrive(0, x.send(1), 0, 0));
        check.is("latest", 6, x.receiver(0, Told.LATEST));
    }

    private static void oldCopies() {
        Office x = Scene.office(1, 1, 1, 0);
        for (int g = 1; g <= 64; g++) {
            Scene.toInterval(x, g, 1);
            x.send(0);
        }
        x.drift(0, -1000);
        x.join(0, 0);
        check.is("not late by this clock", Told.HELD, x.arrive(0, 1, 0, 0));
        check.is("a key 62 steps above", Told.HELD, x.arrive(0, 63, 0, 0));
        check.is("latest", 63, x.receiver(0, Told.LATEST));
        check.is("released", 1, x.receiver(0, Told.RELEASED));
        check.is("a copy of one that was released", Told.LATE, x.arrive(0, 1, 0, 0));
        check.is("an older copy with its right key", Told.LATE, x.arrive(0, 9, 0, 0));
        check.is("an older copy with a wrong key", Told.KEY, x.arrive(0, 9, 16, 1));
    }

    private static void wrongCodes() {
        Office x = Scene.office(1, 1, 1, 0);
        x.join(0, 0);
        x.load(0, 0x01020304);
        x.send(4);
        check.is("a byte wrong", Told.HELD, x.arrive(0, 0, 6, 1));
        check.is("the right one with the same code", Told.TWICE, x.arrive(0, 0, 0, 0));
        x.tick(1);
        x.send(4);
        check.is("the key", Told.HELD, x.arrive(0, 1, 0, 0));
        check.is("wrong codes", 1, x.receiver(0, Told.CODE));
        check.is("released", 0, x.receiver(0, Told.RELEASED));
        check.is("held", 1, x.receiver(0, Told.HOLDS));
        x.tick(1);
        x.arrive(0, x.send(4), 0, 0);
        check.is("wrong codes, still", 1, x.receiver(0, Told.CODE));
        check.is("released", 1, x.receiver(0, Told.RELEASED));
        check.is("its byte", 4, x.releasedByte(0, 0, 3));
    }

    /** Two receivers, of which the second misses every second copy. */
    private static void severalRounds() {
        Office x = Scene.office(1, 2, 10, 1);
        x.join(0, 0);
        x.join(1, 0);
        for (int g = 1; g <= 12; g++) {
            x.load(0, g << 24);
            int p = x.send(g);
            check.is("interval " + g, Told.HELD, x.arrive(0, p, 0, 0));
            if (g % 2 == 0) {
                check.is("interval " + g + " at the second", Told.HELD, x.arrive(1, p, 0, 0));
            }
            check.is("released", Math.max(0, g - 2), x.receiver(0, Told.RELEASED));
            check.is("held", Math.min(2, g), x.receiver(0, Told.HOLDS));
            x.tick(10);
        }
        check.is("released by the second", 5, x.receiver(1, Told.RELEASED));
        check.is("held by the second", 1, x.receiver(1, Told.HOLDS));
        for (int k = 0; k < 10; k++) {
            check.is("interval of release " + k, k + 1, x.released(0, k, 0));
            check.is("n of release " + k, k + 1, x.released(0, k, 2));
            check.is("first byte of release " + k, k + 1, x.releasedByte(0, k, 0));
        }
        for (int k = 0; k < 5; k++) {
            check.is("interval of the second's release " + k, 2 * k + 2, x.released(1, k, 0));
        }
    }

    private static void rootsLeadFromChainToChain() {
        Office x = Scene.office(4, 2, 10, 0);
        x.join(0, 0);
        for (int c = 0; c < 3; c++) {
            Scene.toInterval(x, 64 * c + 61, 10);
            check.is("a root", Told.HELD, x.arrive(0, x.root(), 0, 0));
            x.tick(20);
            check.is("its key", Told.HELD, x.arrive(0, x.send(c), 0, 0));
            check.is("the root is the latest key", 64 * c + 64, x.receiver(0, Told.LATEST));
            x.tick(50);
            check.is("a key of the new chain", Told.HELD, x.arrive(0, x.send(3), 0, 0));
            check.is("latest", 64 * c + 66, x.receiver(0, Told.LATEST));
            // the keys of the old chain's last two intervals never come: what is held of these stays
            check.is("released", 3 * c + 1, x.receiver(0, Told.RELEASED));
            check.is("held", c + 2, x.receiver(0, Told.HOLDS));
            x.tick(20);
            check.is("the key of the bulletin before", Told.HELD, x.arrive(0, x.send(4), 0, 0));
            check.is("it is released", 3 * c + 2, x.receiver(0, Told.RELEASED));
        }
    }

    private static void unknownChains() {
        Office x = Scene.office(2, 1, 1, 0);
        x.send(3);
        check.is("a receiver that never joined holds", Told.HELD, x.arrive(5, 0, 0, 0));
        x.tick(1);
        x.send(3);
        check.is("and goes on", Told.HELD, x.arrive(5, 1, 0, 0));
        check.is("held", 2, x.receiver(5, Told.HOLDS));
        check.is("released", 0, x.receiver(5, Told.RELEASED));

        // held while its chain is not known, released after a root and a key of that chain came
        Office y = Scene.office(2, 3, 1, 0);
        y.join(0, 0);
        Scene.toInterval(y, 64, 1);
        y.arrive(0, y.root(), 0, 0);
        Scene.toInterval(y, 65, 1);
        check.is("a bulletin of chain 1", Told.HELD, y.arrive(0, y.send(9), 0, 0));
        Scene.toInterval(y, 67, 1);
        y.arrive(0, y.send(8), 0, 0);
        check.is("the root is released", 1, y.receiver(0, Told.RELEASED));
        Scene.toInterval(y, 68, 1);
        y.arrive(0, y.send(7), 0, 0);
        check.is("the bulletin is released", 2, y.receiver(0, Told.RELEASED));
        check.is("its interval", 65, y.released(0, 1, 0));
        check.is("its n", 9, y.released(0, 1, 2));
    }

    private static void whatWasReleased() {
        Office x = Scene.office(2, 1, 1, 0);
        x.join(2, 0);
        x.load(0, 0x80ff7f00);
        x.arrive(2, x.send(3), 0, 0);
        x.arrive(2, x.root(), 0, 0);
        x.tick(1);
        x.arrive(2, x.send(0), 0, 0);
        x.tick(1);
        x.arrive(2, x.send(1), 0, 0);
        int[][] due = {{1, 0, 3}, {1, 1, 20}, {2, 0, 0}};
        for (int k = 0; k < 3; k++) {
            for (int what = 0; what < 3; what++) {
                check.is("release " + k + " what " + what, due[k][what], x.released(2, k, what));
            }
        }
        check.is("byte 0", 0x80, x.releasedByte(2, 0, 0));
        check.is("byte 1", 0xff, x.releasedByte(2, 0, 1));
        check.is("byte 2", 0x7f, x.releasedByte(2, 0, 2));
        for (int i = 0; i < 20; i++) {
            check.is("root byte " + i, x.key(64, i), x.releasedByte(2, 1, i));
        }
        check.fails("released of another receiver", INDEX, () -> x.released(1, 0, 0));
    }
}
