/** The boundary cases that the terms name of an arriving copy: its outcomes, and what is released. */
final class ArrivalEdges {
    private static final Class<IndexOutOfBoundsException> INDEX = IndexOutOfBoundsException.class;

    private final Check check;
    private final Sentences doc;

    ArrivalEdges(Check check, Sentences doc) {
        this.check = check;
        this.doc = doc;
    }

    void all() {
        brokenLengths();
        brokenKinds();
        brokenIntervals();
        keysThatAreLookedAt();
        keysBehindTheLatest();
        keysFromFirstToLatest();
        lateCopies();
        copiesThatCameBefore();
        roomForCopies();
        whichIsReleased();
        whatIsReleased();
        rootsThatAreReleased();
    }

    private void sentence(String quote, Check.Act test) {
        doc.sentence(Sentences.TERMS, quote, test);
    }

    private void brokenLengths() {
        sentence("5 BROKEN: its length is not 36 + n", () -> {
            for (int n : new int[] {0, 1, 20, 31, 32}) {
                Office x = Scene.office(1);
                x.send(n);
                for (int other = 0; other < 256; other++) {
                    int due = other == n ? Told.HELD : Told.BROKEN;
                    check.is("n " + n + " told as " + other, due, x.arrive(0, 0, 5, n ^ other));
                }
                check.is("broken ones", 255, x.receiver(0, Told.BROKEN));
                check.is("held ones", 1, x.receiver(0, Told.HOLDS));
            }
        });
        sentence("n is above 32", () -> {
            Office x = Scene.office(1);
            x.send(32);
            check.is("n 32", Told.HELD, x.arrive(0, 0, 5, 0));
            for (int n : new int[] {33, 34, 64, 128, 255}) {
                check.is("n " + n, Told.BROKEN, x.arrive(0, 0, 5, 32 ^ n));
            }
        });
    }

    private void brokenKinds() {
        sentence("the kind is neither", () -> {
            Office x = Scene.office(2);
            x.send(20);
            x.root();
            for (int kind = 2; kind < 256; kind++) {
                check.is("kind " + kind, Told.BROKEN, x.arrive(0, kind % 2, 4, kind ^ kind % 2));
            }
            check.is("kind 0", Told.HELD, x.arrive(0, 0, 4, 0));
            check.is("kind 1", Told.HELD, x.arrive(0, 1, 4, 0));
        });
        sentence("or not 20 for a root", () -> {
            Office x = Scene.office(2);
            for (int n = 0; n <= 32; n++) {
                x.send(n);
                check.is("a root of " + n, n == 20 ? Told.HELD : Told.BROKEN, x.arrive(0, n, 4, 1));
            }
            int p = x.root();
            check.is("a root as a bulletin of 20", Told.HELD, x.arrive(0, p, 4, 1));
        });
    }

    private void brokenIntervals() {
        sentence("or g is below 1", () -> {
            Office x = Scene.office(5);
            x.send(0);
            check.is("interval 1", Told.HELD, x.arrive(0, 0, 0, 0));
            check.is("interval 0", Told.BROKEN, x.arrive(0, 0, 3, 1));
            Scene.toInterval(x, 256, 10);
            x.send(0);
            check.is("interval 0 from 256", Told.BROKEN, x.arrive(0, 1, 2, 1));
            Scene.toInterval(x, 257, 10);
            x.send(0);
            check.is("interval 1 from 257", Told.LATE, x.arrive(0, 2, 2, 1));
        });
        sentence("or above 512", () -> {
            Office x = Scene.office(8);
            x.send(0);
            check.is("interval 513", Told.BROKEN, x.arrive(0, 0, 2, 2));
            check.is("interval 65537", Told.BROKEN, x.arrive(0, 0, 1, 1));
            check.is("interval 2 to the 24th, plus 1", Told.BROKEN, x.arrive(0, 0, 0, 1));
            check.is("interval 2 to the 31st, plus 1", Told.BROKEN, x.arrive(0, 0, 0, 128));
            Scene.toInterval(x, 256, 10);
            x.send(0);
            check.is("interval 512 from 256", Told.HELD, x.arrive(0, 1, 2, 3));
            check.is("interval 768 from 256", Told.BROKEN, x.arrive(0, 1, 2, 2));
            Scene.toInterval(x, 512, 10);
            x.send(0);
            check.is("interval 512", Told.HELD, x.arrive(0, 2, 0, 0));
            check.is("interval 514 from 512", Told.BROKEN, x.arrive(0, 2, 3, 2));
        });
        sentence("It is not looked at further", () -> {
            doc.alike("broken, with a new key, and without one", Scene.BUSY,
                    x -> x.arrive(4, 6, 4, 2), x -> x.arrive(4, 0, 4, 2));
            Office x = Scene.office(1, 1, 10, 0);
            x.join(0, 0);
            x.arrive(0, x.send(1), 0, 0);
            x.tick(10);
            check.is("broken, with a new key", Told.BROKEN, x.arrive(0, x.send(1), 4, 2));
            check.is("the key is not taken", 0, x.receiver(0, Told.LATEST));
            check.is("nothing is released", 0, x.receiver(0, Told.RELEASED));
            check.is("no more is held", 1, x.receiver(0, Told.HOLDS));
            check.is("it is counted once", 1, x.receiver(0, Told.BROKEN));
        });
    }

    private void keysThatAreLookedAt() {
        sentence("of interval s = g - lag, if s is 1 or more", () -> {
            for (int lag = 1; lag <= 8; lag++) {
                Office x = Scene.office(1, lag, 10, 0);
                x.join(0, 0);
                Scene.toInterval(x, lag, 10);
                check.is("s is 0, noughts changed, lag " + lag, Told.HELD, x.arrive(0, x.send(0), 35, 1));
                x.tick(10);
                check.is("s is 1, key changed, lag " + lag, Told.KEY, x.arrive(0, x.send(0), 35, 1));
                check.is("s is 1, the key, lag " + lag, Told.HELD, x.arrive(0, 1, 0, 0));
                check.is("latest", 1, x.receiver(0, Told.LATEST));
            }
        });
        sentence("and the receiver knows s's chain", () -> {
            Office x = Scene.office(2, 1, 10, 0);
            Scene.toInterval(x, 65, 10);
            x.send(0);
            check.is("nothing is known", Told.HELD, x.arrive(0, 0, 30, 1));
            check.is("no latest key by that", Office.NONE, x.receiver(0, Told.LATEST));
            // the key of interval 64 is that of chain 0, though the root of chain 1 is said to be its key too
            x.join(1, 64);
            check.is("chain 1 is known, s is 64", Told.HELD, x.arrive(1, 0, 30, 1));
            check.is("latest", 64, x.receiver(1, Told.LATEST));
            x.join(2, 63);
            check.is("chain 0 is known, s is 64", Told.KEY, x.arrive(2, 0, 30, 1));
            x.tick(10);
            x.send(0);
            check.is("chain 1 is known, s is 65", Told.KEY, x.arrive(1, 1, 30, 1));
            check.is("chain 0 is known, s is 65", Told.HELD, x.arrive(2, 1, 30, 1));
            check.is("latest, still", 63, x.receiver(2, Told.LATEST));
        });
    }

    private void keysBehindTheLatest() {
        sentence("if s is after v: going down from it by s - v steps has to give the latest one; "
                + "then it is the latest", () -> {
            for (int s : new int[] {1, 2, 3, 33, 63, 64}) {
                Office x = Scene.office(2, 1, 10, 0);
                Scene.toInterval(x, s + 1, 10);
                x.send(0);
                for (int v = 0; v < Math.min(s, 64); v += Math.max(1, s - 1)) {
                    x.join(0, v);
                    for (int i = 16; i < 36; i++) {
                        check.is("byte " + i + " wrong, s " + s + " v " + v, Told.KEY, x.arrive(0, 0, i, 128));
                    }
                    check.is("not the latest by that", v, x.receiver(0, Told.LATEST));
                    check.is("s " + s + " v " + v, Told.HELD, x.arrive(0, 0, 0, 0));
                    check.is("the latest", s, x.receiver(0, Told.LATEST));
                }
            }
            Office x = Scene.office(1, 1, 10, 0);
            x.join(0, 0);
            Scene.toInterval(x, 5, 10);
            x.send(0);
            check.is("the key of 4 as that of 6", Told.KEY, x.arrive(0, 0, 3, 5 ^ 7));
            check.is("the key of 4 as that of 2", Told.KEY, x.arrive(0, 0, 3, 5 ^ 3));
            check.is("the key of 4", Told.HELD, x.arrive(0, 0, 0, 0));
        });
        sentence("2 KEY: it is wrong; nothing further", () -> {
            doc.alike("two wrong keys behind the latest", Scene.BUSY,
                    x -> x.arrive(4, 6, 40, 1), x -> x.arrive(4, 5, 38, 1));
            doc.alike("a wrong key behind the latest, and one that is before it", Scene.BUSY,
                    x -> x.arrive(0, 6, 3, 3 ^ 4), x -> x.arrive(0, 6, 40, 1));
            Office x = Scene.office(1, 1, 10, 0);
            x.join(0, 0);
            x.arrive(0, x.send(1), 0, 0);
            x.tick(10);
            x.send(2);
            x.tick(500);
            check.is("a wrong key, late by time", Told.KEY, x.arrive(0, 1, 37, 1));
            check.is("wrong keys", 1, x.receiver(0, Told.KEY));
            check.is("late ones", 0, x.receiver(0, Told.LATE));
            check.is("latest", 0, x.receiver(0, Told.LATEST));
            check.is("released", 0, x.receiver(0, Told.RELEASED));
            check.is("held", 1, x.receiver(0, Told.HOLDS));
        });
    }

    private void keysFromFirstToLatest() {
        sentence("If s is from f to v: going down from the latest one by v - s has to give it", () -> {
            Office x = Scene.office(1, 1, 10, 0);
            for (int g = 2; g <= 10; g++) {
                Scene.toInterval(x, g, 10);
                x.send(0);
            }
            // packet p shows the key of p + 1; the receiver has the first of 3 and the latest of 9
            x.drift(0, -1000);
            x.join(0, 3);
            check.is("the latest", Told.HELD, x.arrive(0, 8, 0, 0));
            check.is("is of 9", 9, x.receiver(0, Told.LATEST));
            for (int s : new int[] {3, 4, 6, 8, 9}) {
                for (int i = 16; i < 36; i++) {
                    check.is("byte " + i + " wrong, s " + s, Told.KEY, x.arrive(0, s - 1, i, 1));
                }
                int due = s == 9 ? Told.TWICE : Told.LATE;
                check.is("right, s " + s, due, x.arrive(0, s - 1, 0, 0));
            }
            check.is("the latest stays", 9, x.receiver(0, Told.LATEST));
        });
        sentence("Else it is not looked at", () -> {
            Office x = Scene.office(1, 4, 10, 0);
            Scene.toInterval(x, 9, 10);
            x.send(0);
            for (int f = 4; f <= 8; f++) {
                x.join(0, f);
                int due = f <= 5 ? Told.KEY : Told.HELD;
                check.is("s is 5, changed, f " + f, due, x.arrive(0, 0, 25, 1));
                check.is("latest", f, x.receiver(0, Told.LATEST));
            }
        });
    }

    private void lateCopies() {
        sentence("RECEIVERS 0 .. 7 have a clock that tells the sender's time plus their DRIFT, "
                + "and know that this is off by ERROR at most either way", () -> {
            Office x = Scene.office(1, 1, 100, 7);
            x.send(0);
            x.tick(50);
            // the key can have been shown when the clock, if it is behind by 7, should tell 100
            for (int r = 0; r < 8; r++) {
                x.drift(r, 39 + r);
                int due = r < 4 ? Told.HELD : Told.LATE;
                check.is("receiver " + r + " tells " + (89 + r), due, x.arrive(r, 0, 0, 0));
            }
            check.fails("receiver 8", INDEX, () -> x.arrive(8, 0, 0, 0));
        });
        sentence("With a new latest key the receiver RELEASES", () -> {
            Office x = Scene.office(1, 1, 10, 0);
            x.join(0, 0);
            x.arrive(0, x.send(1), 0, 0);
            x.tick(10);
            int p = x.send(2);
            x.tick(100);
            check.is("a late copy with a new key", Told.LATE, x.arrive(0, p, 0, 0));
            check.is("its key releases", 1, x.receiver(0, Told.RELEASED));
            check.is("it is not held", 0, x.receiver(0, Told.HOLDS));
            Office full = Scene.FULL.make();
            full.tick(20);
            check.is("a new key at one that is full", Told.HELD, full.arrive(0, full.send(1), 0, 0));
            check.is("all of interval 1 are released before", 16, full.receiver(0, Told.RELEASED));
            check.is("held then", 1, full.receiver(0, Told.HOLDS));
        });
        sentence("1 LATE: time + drift + error is not below (g + lag - 1) * ticks", () -> {
            for (int drift : new int[] {-35, -1, 0, 1, 12}) {
                Office x = Scene.office(1, 3, 10, 4);
                Scene.toInterval(x, 2, 10);
                x.send(0);
                x.drift(0, drift);
                x.drift(1, drift);
                x.tick(35 - 10 - drift);
                check.is("one tick before, drift " + drift, Told.HELD, x.arrive(0, 0, 0, 0));
                x.tick(1);
                check.is("just then, drift " + drift, Told.LATE, x.arrive(1, 0, 0, 0));
                check.is("late comes before twice", Told.LATE, x.arrive(0, 0, 0, 0));
            }
            Office x = Scene.office(8, 8, 1000, 10000);
            for (int i = 0; i < 5; i++) {
                x.tick(100000);
            }
            x.tick(11999);
            x.send(0);
            x.drift(0, -3000);
            check.is("the last tick, a clock behind", Told.HELD, x.arrive(0, 0, 0, 0));
            x.drift(1, -2999);
            check.is("the last tick, a tick less", Told.LATE, x.arrive(1, 0, 0, 0));
            x.drift(2, 10000);
            check.is("the last tick, a clock far ahead", Told.LATE, x.arrive(2, 0, 0, 0));
            Office y = Scene.office(1, 1, 1, 0);
            y.send(0);
            y.drift(0, -10000);
            check.is("a clock below 0", Told.HELD, y.arrive(0, 0, 0, 0));
            y.drift(1, 10000);
            check.is("a clock far ahead", Told.LATE, y.arrive(1, 0, 0, 0));
        });
        sentence("or g's chain is known, and its latest key is not before g", () -> {
            Office x = Scene.office(2, 1, 10, 0);
            for (int g : new int[] {3, 64, 65}) {
                Scene.toInterval(x, g, 10);
                x.send(0);
            }
            for (int r = 0; r < 8; r++) {
                x.drift(r, -2000);
            }
            check.is("nothing is known", Told.HELD, x.arrive(0, 0, 0, 0));
            int[][] cases = {{2, 0, Told.HELD}, {3, 0, Told.LATE}, {4, 0, Told.LATE}, {63, 1, Told.HELD},
                {64, 1, Told.HELD}, {64, 2, Told.HELD}, {65, 2, Told.LATE}, {65, 1, Told.HELD}};
            for (int[] c : cases) {
                x.join(1, c[0]);
                check.is("key of " + c[0] + ", packet " + c[1], c[2], x.arrive(1, c[1], 0, 0));
            }
        });
    }

    private void copiesThatCameBefore() {
        sentence("3 TWICE: one with this interval and these 10 bytes of code is held", () -> {
            Office x = Scene.office(1);
            x.send(4);
            x.load(0, 7);
            x.send(4);
            x.send(4);
            x.send(0);
            check.is("the first", Told.HELD, x.arrive(0, 0, 0, 0));
            check.is("the same", Told.TWICE, x.arrive(0, 0, 0, 0));
            check.is("other bytes, the same code", Told.TWICE, x.arrive(0, 0, 9, 255));
            check.is("other bytes shown, the same code", Told.TWICE, x.arrive(0, 0, 20, 255));
            for (int i = 10; i < 20; i++) {
                check.is("code byte " + i + " other", Told.HELD, x.arrive(0, 0, i, 1));
            }
            check.is("the same wrong code", Told.TWICE, x.arrive(0, 0, 19, 1));
            check.is("the same code, another interval", Told.HELD, x.arrive(0, 0, 3, 3));
            check.is("that again", Told.TWICE, x.arrive(0, 0, 3, 3));
            check.is("other bytes and code", Told.HELD, x.arrive(0, 1, 0, 0));
            check.is("sent again with the same bytes", Told.TWICE, x.arrive(0, 2, 0, 0));
            check.is("one of another length", Told.HELD, x.arrive(0, 3, 0, 0));
            for (int i = 0; i < 3; i++) {
                x.load(i, codeWord(x, 3, i));
            }
            x.send(32);
            check.is("one whose own bytes are another's code", Told.HELD, x.arrive(0, 4, 0, 0));
            check.is("the other again", Told.TWICE, x.arrive(0, 3, 0, 0));
            doc.alike("twice with other bytes", Scene.FULL, y -> y.arrive(0, 15, 6, 1), y -> y.arrive(0, 3, 0, 0));
            check.is("at another receiver", Told.HELD, x.arrive(1, 0, 0, 0));
            check.is("twice", 7, x.receiver(0, Told.TWICE));
            check.is("held", 15, x.receiver(0, Told.HOLDS));
        });
        sentence("or was released", () -> {
            Office x = Scene.office(1, 1, 10, 0);
            x.join(0, 0);
            x.drift(0, -1000);
            x.arrive(0, x.send(4), 0, 0);
            x.tick(10);
            x.arrive(0, x.send(0), 0, 0);
            check.is("released", 1, x.receiver(0, Told.RELEASED));
            // the key of its interval is there, and LATE is told before TWICE
            check.is("it comes again", Told.LATE, x.arrive(0, 0, 0, 0));
            check.is("it is not held again", 1, x.receiver(0, Told.HOLDS));
            x.tick(10);
            x.arrive(0, x.send(0), 0, 0);
            check.is("nor released again", 2, x.receiver(0, Told.RELEASED));
        });
    }

    /** Word i of an empty bulletin's code and what stands behind it. */
    private static int codeWord(Office x, int p, int i) {
        int word = 0;
        for (int k = 0; k < 4; k++) {
            word = word << 8 | x.packet(p, 6 + 4 * i + k);
        }
        return word;
    }

    private void roomForCopies() {
        sentence("4 FULL: 16 are held. 0: it is held", () -> {
            Office x = Scene.office(1);
            x.join(0, 0);
            for (int n = 0; n <= 18; n++) {
                x.send(n);
            }
            for (int p = 0; p < 16; p++) {
                check.is("copy " + p, Told.HELD, x.arrive(0, p, 0, 0));
                check.is("held", p + 1, x.receiver(0, Told.HOLDS));
            }
            check.is("the 17th", Told.FULL, x.arrive(0, 16, 0, 0));
            check.is("the 18th", Told.FULL, x.arrive(0, 17, 0, 0));
            check.is("twice comes before full", Told.TWICE, x.arrive(0, 15, 0, 0));
            check.is("the 17th was not held", Told.FULL, x.arrive(0, 16, 0, 0));
            check.is("broken comes before full", Told.BROKEN, x.arrive(0, 16, 4, 2));
            check.is("held", 16, x.receiver(0, Told.HOLDS));
            check.is("another has room", Told.HELD, x.arrive(1, 16, 0, 0));
            x.tick(17);
            check.is("late comes before full", Told.LATE, x.arrive(0, 16, 0, 0));
            doc.alike("the 17th and the 18th", Scene.FULL, y -> y.arrive(0, 16, 0, 0),
                    y -> y.arrive(0, 17, 0, 0));
        });
    }

    private void whichIsReleased() {
        sentence("of the held ones whose interval's chain is known, with a latest key not before it", () -> {
            Office x = Scene.office(2, 4, 10, 0);
            x.drift(0, -1000);
            x.join(0, 60);
            for (int g = 61; g <= 66; g++) {
                Scene.toInterval(x, g, 10);
                check.is("interval " + g, Told.HELD, x.arrive(0, x.send(g - 60), 0, 0));
            }
            check.is("the key of 62 came: those of 61 and 62 are gone", 2, x.receiver(0, Told.RELEASED));
            check.is("held", 4, x.receiver(0, Told.HOLDS));
            Scene.toInterval(x, 68, 10);
            x.arrive(0, x.send(0), 0, 0);
            check.is("the key of 64 came: those of chain 0 are gone", 4, x.receiver(0, Told.RELEASED));
            Scene.toInterval(x, 72, 10);
            x.arrive(0, x.send(0), 0, 0);
            check.is("a key of chain 1, which is not known", 4, x.receiver(0, Told.RELEASED));
            check.is("held", 4, x.receiver(0, Told.HOLDS));
            for (int k = 0; k < 4; k++) {
                check.is("interval of release " + k, 61 + k, x.released(0, k, 0));
            }
        });
        sentence("the one of the lowest interval, of these the first that came, goes out, again and again", () -> {
            Office x = Scene.office(1, 4, 10, 0);
            int[] intervals = {1, 1, 1, 2, 2, 3, 3, 4};
            for (int p = 0; p < intervals.length; p++) {
                Scene.toInterval(x, intervals[p], 10);
                x.send(p);
            }
            x.join(0, 0);
            for (int p : new int[] {7, 6, 4, 1, 3, 5, 2, 0}) {
                check.is("copy of " + p, Told.HELD, x.arrive(0, p, 0, 0));
            }
            Scene.toInterval(x, 7, 10);
            check.is("the key of 3", Told.HELD, x.arrive(0, x.send(10), 0, 0));
            int[] due = {1, 2, 0, 4, 3, 6, 5};
            check.is("released", due.length, x.receiver(0, Told.RELEASED));
            for (int k = 0; k < due.length; k++) {
                check.is("interval of release " + k, intervals[due[k]], x.released(0, k, 0));
                check.is("n of release " + k, due[k], x.released(0, k, 2));
            }
            check.is("held", 2, x.receiver(0, Told.HOLDS));
        });
    }

    private void whatIsReleased() {
        sentence("its code is looked at; 6 CODE: it is wrong, and it is gone; else it is RELEASED", () -> {
            // the interval's last byte, the kind, bytes of its own, and all of its code
            int[] places = {3, 4, 6, 25, 26, 27, 28, 29, 30, 31, 32, 33, 34, 35};
            for (int place : places) {
                Office x = Scene.office(1, 2, 10, 0);
                x.join(0, 0);
                x.send(20);
                x.send(3);
                check.is("byte " + place + " is wrong", Told.HELD, x.arrive(0, 0, place, place == 3 ? 3 : 1));
                check.is("a right one", Told.HELD, x.arrive(0, 1, 0, 0));
                x.tick(30);
                check.is("the key of 2", Told.HELD, x.arrive(0, x.send(1), 0, 0));
                check.is("wrong codes, byte " + place, 1, x.receiver(0, Told.CODE));
                check.is("released", 1, x.receiver(0, Told.RELEASED));
                check.is("it is the right one", 3, x.released(0, 0, 2));
                check.is("the wrong one is gone", 1, x.receiver(0, Told.HOLDS));
                x.tick(20);
                x.arrive(0, x.send(1), 0, 0);
                check.is("and stays gone", 1, x.receiver(0, Told.CODE));
            }
        });
    }

    private void rootsThatAreReleased() {
        sentence("by a root, if the chain behind is not known, that is known then: "
                + "first and latest are the root", () -> {
            Office x = Scene.office(3, 1, 10, 0);
            x.join(0, 62);
            x.join(1, 62);
            Scene.toInterval(x, 63, 10);
            x.root();
            check.is("a root", Told.HELD, x.arrive(0, 0, 0, 0));
            check.is("a root of which a byte is wrong", Told.HELD, x.arrive(1, 0, 25, 1));
            x.tick(10);
            int p = x.send(0);
            x.arrive(0, p, 0, 0);
            x.arrive(1, p, 0, 0);
            check.is("the root is released", 1, x.receiver(0, Told.RELEASED));
            check.is("chain 1 is known by it", 64, x.receiver(0, Told.LATEST));
            check.is("the wrong one is not", 0, x.receiver(1, Told.RELEASED));
            check.is("chain 1 is not known by that", 63, x.receiver(1, Told.LATEST));
            Scene.toInterval(x, 66, 10);
            p = x.send(0);
            check.is("a wrong key of chain 1", Told.KEY, x.arrive(0, p, 35, 1));
            check.is("the key of 65, one above the root", Told.HELD, x.arrive(0, p, 0, 0));
            check.is("latest", 65, x.receiver(0, Told.LATEST));
            check.is("not known: not looked at", Told.HELD, x.arrive(1, p, 35, 1));
            rootOfAKnownChain();
        });
    }

    /** A second root takes nothing back of what is known of its chain. */
    private void rootOfAKnownChain() {
        Office x = Scene.office(2, 1, 10, 0);
        x.join(0, 0);
        x.drift(0, -1000);
        x.root();
        x.tick(10);
        x.root();
        x.tick(10);
        x.send(0);
        Scene.toInterval(x, 70, 10);
        x.send(0);
        x.arrive(0, 0, 0, 0);
        x.arrive(0, 1, 0, 0);
        check.is("the root is known early", 64, x.receiver(0, Told.LATEST));
        x.arrive(0, 3, 0, 0);
        check.is("a key of chain 1", 69, x.receiver(0, Told.LATEST));
        x.arrive(0, 2, 0, 0);
        check.is("both roots are released", 2, x.receiver(0, Told.RELEASED));
        check.is("the second takes nothing back", 69, x.receiver(0, Told.LATEST));
    }
}
