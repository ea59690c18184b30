/**
 * The program under test, for no more than the 512 calls of one object for which the document promises
 * answers: a test that would go further ends at once.
 */
final class Office {
    static final int NONE = BulletinOffice.NONE;

    private static final int CALLS = 512;

    private final BulletinOffice office;
    private int left = CALLS;

    Office(int lag, int ticks, int error) {
        office = new BulletinOffice(lag, ticks, error);
    }

    /** How many calls may still be made. */
    int left() {
        return left;
    }

    private BulletinOffice next() {
        if (left == 0) {
            throw new AssertionError("a test makes more than " + CALLS + " calls of one object");
        }
        left--;
        return office;
    }

    int chain(int a, int b, int c, int d, int e) {
        return next().chain(a, b, c, d, e);
    }

    int tick(int n) {
        return next().tick(n);
    }

    int load(int i, int word) {
        return next().load(i, word);
    }

    int digest(int n, int i) {
        return next().digest(n, i);
    }

    int send(int n) {
        return next().send(n);
    }

    int root() {
        return next().root();
    }

    int packet(int p, int i) {
        return next().packet(p, i);
    }

    int key(int g, int i) {
        return next().key(g, i);
    }

    void join(int r, int g) {
        next().join(r, g);
    }

    int drift(int r, int drift) {
        return next().drift(r, drift);
    }

    int arrive(int r, int p, int i, int mask) {
        return next().arrive(r, p, i, mask);
    }

    int receiver(int r, int what) {
        return next().receiver(r, what);
    }

    int released(int r, int k, int what) {
        return next().released(r, k, what);
    }

    int releasedByte(int r, int k, int i) {
        return next().releasedByte(r, k, i);
    }

    int count(int what) {
        return next().count(what);
    }
}
