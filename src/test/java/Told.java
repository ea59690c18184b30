/** The names of an arriving copy's outcomes, and of what else receiver(r, what) tells. */
final class Told {
    static final int HELD = 0;
    static final int LATE = 1;
    static final int KEY = 2;
    static final int TWICE = 3;
    static final int FULL = 4;
    static final int BROKEN = 5;
    static final int CODE = 6;
    static final int RELEASED = 7;
    static final int HOLDS = 8;
    static final int LATEST = 9;

    private Told() {
    }
}
