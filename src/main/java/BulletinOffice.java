import java.util.ArrayList;
import java.util.Arrays;

/**
 * A sender of bulletins that can be known as its own by codes whose keys it shows some time later,
 * and receivers that hold what comes, check it by a chain of keys, and release it.
 */
public final class BulletinOffice {
    /** Nothing there. */
    public static final int NONE = -1;

    private static final int CHAINS = 8;
    private static final int TOP_KEY = 64;
    private static final int KEY_WORDS = 5;
    private static final int KEY_BYTES = 20;
    private static final int LAST_INTERVAL = 512;

    private static final int BUFFER_WORDS = 8;
    private static final int BULLETIN_LIMIT = 32;
    private static final int PACKET_LIMIT = 200;
    private static final int TICK_LIMIT = 100000;

    private static final int RECEIVERS = 8;
    private static final int DRIFT_LIMIT = 10000;

    private static final int BULLETIN = 0;
    private static final int ROOT = 1;

    private final Clock clock;
    private final Sealer sealer;
    private final int[] buffer;
    private final KeyChain[] chains;
    private int chainCount;
    private final ArrayList<Packet> packets;
    private final Receiver[] receivers;

    public BulletinOffice(int lag, int ticks, int error) {
        clock = new Clock(1 + Math.floorMod(lag, 8), 1 + Math.floorMod(ticks, 1000),
                Math.floorMod(error, 10001));
        sealer = new Sealer();
        buffer = new int[BUFFER_WORDS];
        chains = new KeyChain[CHAINS];
        for (int c = 0; c < CHAINS; c++) {
            chains[c] = new KeyChain();
        }
        packets = new ArrayList<>();
        receivers = new Receiver[RECEIVERS];
        for (int r = 0; r < RECEIVERS; r++) {
            receivers[r] = new Receiver(clock, sealer);
        }
    }

    public int chain(int a, int b, int c, int d, int e) throws IllegalStateException {
        if (chainCount >= CHAINS) {
            throw new IllegalStateException();
        }
        KeyChain next = chains[chainCount];
        next.putTopKey(a, b, c, d, e);
        next.fillDown(TOP_KEY, 0, sealer);
        chainCount++;
        return chainCount - 1;
    }

    public int tick(int n) throws IllegalArgumentException, IllegalStateException {
        if (n < 1 || n > TICK_LIMIT) {
            throw new IllegalArgumentException();
        }
        if (clock.intervalAt(clock.time + n) > LAST_INTERVAL) {
            throw new IllegalStateException();
        }
        clock.time += n;
        return clock.time;
    }

    public int load(int i, int word) throws IndexOutOfBoundsException {
        if (i < 0 || i >= BUFFER_WORDS) {
            throw new IndexOutOfBoundsException();
        }
        int before = buffer[i];
        buffer[i] = word;
        return before;
    }

    public int digest(int n, int i) throws IllegalArgumentException, IndexOutOfBoundsException {
        if (n < 0 || n > BULLETIN_LIMIT) {
            throw new IllegalArgumentException();
        }
        if (i < 0 || i >= Sealer.WORDS) {
            throw new IndexOutOfBoundsException();
        }
        sealer.clear();
        for (int k = 0; k < n; k++) {
            sealer.addByte(byteOf(buffer, k));
        }
        sealer.finish();
        return sealer.result[i];
    }

    public int send(int n)
            throws IllegalArgumentException, IllegalStateException, UnsupportedOperationException {
        if (n < 0 || n > BULLETIN_LIMIT) {
            throw new IllegalArgumentException();
        }
        int g = clock.intervalAt(clock.time);
        if (chainOf(g) >= chainCount) {
            throw new IllegalStateException();
        }
        if (packets.size() >= PACKET_LIMIT) {
            throw new UnsupportedOperationException();
        }
        Packet p = new Packet(g, BULLETIN, n);
        for (int i = 0; i < n; i++) {
            p.bytes[Packet.HEAD + i] = byteOf(buffer, i);
        }
        return post(p);
    }

    public int root() throws IllegalStateException, UnsupportedOperationException {
        int g = clock.intervalAt(clock.time);
        int behind = chainOf(g) + 1;
        if (behind >= chainCount) {
            throw new IllegalStateException();
        }
        if (packets.size() >= PACKET_LIMIT) {
            throw new UnsupportedOperationException();
        }
        Packet p = new Packet(g, ROOT, KEY_BYTES);
        chains[behind].writeKey(0, p.bytes, Packet.HEAD);
        return post(p);
    }

    public int packet(int p, int i) throws IndexOutOfBoundsException {
        if (!hasPacketByte(p, i)) {
            throw new IndexOutOfBoundsException();
        }
        return packets.get(p).bytes[i];
    }

    public int key(int g, int i) throws IndexOutOfBoundsException, IllegalStateException {
        if (g < 0 || g > LAST_INTERVAL || i < 0 || i >= KEY_BYTES) {
            throw new IndexOutOfBoundsException();
        }
        int c = g / TOP_KEY;
        int k = g % TOP_KEY;
        if (c >= chainCount && c > 0 && k == 0) {
            // without the chain that it would be the root of, it is the last key of the one before
            c--;
            k = TOP_KEY;
        }
        if (c >= chainCount) {
            throw new IllegalStateException();
        }
        return chains[c].byteAt(k, i);
    }

    public void join(int r, int g) throws IndexOutOfBoundsException, IllegalStateException {
        if (!isReceiver(r) || g < 0 || g >= LAST_INTERVAL) {
            throw new IndexOutOfBoundsException();
        }
        int c = g / TOP_KEY;
        if (c >= chainCount) {
            throw new IllegalStateException();
        }
        receivers[r].beginAnew();
        receivers[r].known[c].learnFrom(chains[c], g % TOP_KEY);
    }

    public int drift(int r, int drift) throws IndexOutOfBoundsException, IllegalArgumentException {
        if (!isReceiver(r)) {
            throw new IndexOutOfBoundsException();
        }
        if (drift < -DRIFT_LIMIT || drift > DRIFT_LIMIT) {
            throw new IllegalArgumentException();
        }
        int before = receivers[r].drift;
        receivers[r].drift = drift;
        return before;
    }

    public int arrive(int r, int p, int i, int mask)
            throws IndexOutOfBoundsException, IllegalArgumentException {
        if (!isReceiver(r) || !hasPacketByte(p, i)) {
            throw new IndexOutOfBoundsException();
        }
        if (mask < 0 || mask > 255) {
            throw new IllegalArgumentException();
        }
        Packet copy = new Packet(packets.get(p));
        copy.bytes[i] ^= mask;
        int outcome = receivers[r].take(copy);
        receivers[r].counts[outcome]++;
        return outcome;
    }

    public int receiver(int r, int what) throws IndexOutOfBoundsException {
        if (!isReceiver(r) || what < 0 || what > 9) {
            throw new IndexOutOfBoundsException();
        }
        Receiver of = receivers[r];
        switch (what) {
            case 7:
                return of.releasedCount;
            case 8:
                return of.held.size();
            case 9:
                return of.latestInterval();
            default:
                return of.counts[what];
        }
    }

    public int released(int r, int k, int what) throws IndexOutOfBoundsException {
        if (!isKept(r, k) || what < 0 || what > 2) {
            throw new IndexOutOfBoundsException();
        }
        Packet p = receivers[r].kept.get(k);
        switch (what) {
            case 0:
                return p.interval();
            case 1:
                return p.kind();
            default:
                return p.size();
        }
    }

    public int releasedByte(int r, int k, int i) throws IndexOutOfBoundsException {
        if (!isKept(r, k) || i < 0 || i >= receivers[r].kept.get(k).size()) {
            throw new IndexOutOfBoundsException();
        }
        return receivers[r].kept.get(k).bytes[Packet.HEAD + i];
    }

    public int count(int what) {
        switch (what) {
            case 0:
                return clock.time;
            case 1:
                return clock.intervalAt(clock.time);
            case 2:
                return chainCount;
            case 3:
                return packets.size();
            default:
                return NONE;
        }
    }

    private int post(Packet p) {
        int g = p.interval();
        chains[chainOf(g)].sealPacket(numberInChain(g), p, sealer);
        p.writeCode(sealer.result);
        int s = g - clock.lag;
        if (s >= 1) {
            chains[chainOf(s)].writeKey(numberInChain(s), p.bytes, p.shownAt());
        }
        packets.add(p);
        return packets.size() - 1;
    }

    private boolean hasPacketByte(int p, int i) {
        return p >= 0 && p < packets.size() && i >= 0 && i < packets.get(p).bytes.length;
    }

    private boolean isReceiver(int r) {
        return r >= 0 && r < RECEIVERS;
    }

    private boolean isKept(int r, int k) {
        return isReceiver(r) && k >= 0 && k < receivers[r].kept.size();
    }

    /** The chain of an interval from 1 on. */
    private static int chainOf(int g) {
        return (g - 1) / TOP_KEY;
    }

    /** The number, 1 .. 64, that the key of an interval from 1 on has in its chain. */
    private static int numberInChain(int g) {
        return (g - 1) % TOP_KEY + 1;
    }

    /** Byte i of a row of words, the highest byte of a word first. */
    private static int byteOf(int[] words, int i) {
        return (words[i / 4] >>> (24 - 8 * (i % 4))) & 255;
    }

    /** The word of four bytes, the highest first. */
    private static int wordAt(int[] bytes, int from) {
        return (bytes[from] << 24) | (bytes[from + 1] << 16) | (bytes[from + 2] << 8)
                | bytes[from + 3];
    }

    /** The sender's time, and what sender and receivers know of intervals and of their clocks. */
    private static final class Clock {
        final int lag;
        final int ticks;
        final int error;
        int time;

        Clock(int lag, int ticks, int error) {
            this.lag = lag;
            this.ticks = ticks;
            this.error = error;
        }

        int intervalAt(int t) {
            return t / ticks + 1;
        }

        /** Whether, by a clock with this drift, the key of interval g can have been shown. */
        boolean canHaveShown(int g, int drift) {
            return time + drift + error >= (g + lag - 1) * ticks;
        }
    }

    /** The digest (SHA-256) and the seal (HMAC by it); its rows are used again by every call. */
    private static final class Sealer {
        static final int WORDS = 8;

        private static final int BLOCK_WORDS = 16;
        private static final int BLOCK_BYTES = 64;
        private static final int ROUNDS = 64;
        // the longest row here, a padded key and a bulletin's packet without its end, needs two blocks
        private static final int ROW_WORDS = 2 * BLOCK_WORDS;
        private static final int LENGTH_BYTES = 8;
        private static final int INNER_PAD = 0x36363636;
        private static final int OUTER_PAD = 0x5c5c5c5c;

        private static final int[] START = {
            0x6a09e667, 0xbb67ae85, 0x3c6ef372, 0xa54ff53a, 0x510e527f, 0x9b05688c, 0x1f83d9ab, 0x5be0cd19
        };
        private static final int[] CONSTANTS = {
            0x428a2f98, 0x71374491, 0xb5c0fbcf, 0xe9b5dba5, 0x3956c25b, 0x59f111f1, 0x923f82a4, 0xab1c5ed5,
            0xd807aa98, 0x12835b01, 0x243185be, 0x550c7dc3, 0x72be5d74, 0x80deb1fe, 0x9bdc06a7, 0xc19bf174,
            0xe49b69c1, 0xefbe4786, 0x0fc19dc6, 0x240ca1cc, 0x2de92c6f, 0x4a7484aa, 0x5cb0a9dc, 0x76f988da,
            0x983e5152, 0xa831c66d, 0xb00327c8, 0xbf597fc7, 0xc6e00bf3, 0xd5a79147, 0x06ca6351, 0x14292967,
            0x27b70a85, 0x2e1b2138, 0x4d2c6dfc, 0x53380d13, 0x650a7354, 0x766a0abb, 0x81c2c92e, 0x92722c85,
            0xa2bfe8a1, 0xa81a664b, 0xc24b8b70, 0xc76c51a3, 0xd192e819, 0xd6990624, 0xf40e3585, 0x106aa070,
            0x19a4c116, 0x1e376c08, 0x2748774c, 0x34b0bcb5, 0x391c0cb3, 0x4ed8aa4a, 0x5b9cca4f, 0x682e6ff3,
            0x748f82ee, 0x78a5636f, 0x84c87814, 0x8cc70208, 0x90befffa, 0xa4506ceb, 0xbef9a3f7, 0xc67178f2
        };

        /** The words of what was finished or sealed last. */
        final int[] result = new int[WORDS];

        /** A place for the code key, which is the result of one seal and the key of the next. */
        final int[] codeKey = new int[WORDS];

        private final int[] row = new int[ROW_WORDS];
        private int length;
        private final int[] words = new int[ROUNDS];

        void clear() {
            Arrays.fill(row, 0);
            length = 0;
        }

        void addByte(int b) {
            if (length < 4 * ROW_WORDS - LENGTH_BYTES) {
                row[length / 4] |= b << (24 - 8 * (length % 4));
                length++;
            }
        }

        /** The digest of what was added since clear. */
        void finish() {
            int bits = 8 * length;
            addByte(128);
            int blocks = (length + LENGTH_BYTES + BLOCK_BYTES - 1) / BLOCK_BYTES;
            row[blocks * BLOCK_WORDS - 1] = bits;
            System.arraycopy(START, 0, result, 0, WORDS);
            for (int block = 0; block < blocks; block++) {
                spreadBlock(block * BLOCK_WORDS);
                mixBlock();
            }
        }

        /** The seal of the first n bytes by a key of so many words. */
        void seal(int[] key, int from, int keyWords, int[] bytes, int n) {
            startWithKey(key, from, keyWords, INNER_PAD);
            for (int i = 0; i < n; i++) {
                addByte(bytes[i]);
            }
            finish();
            startWithKey(key, from, keyWords, OUTER_PAD);
            System.arraycopy(result, 0, row, BLOCK_WORDS, WORDS);
            length += 4 * WORDS;
            finish();
        }

        private void startWithKey(int[] key, int from, int keyWords, int pad) {
            clear();
            for (int i = 0; i < BLOCK_WORDS; i++) {
                row[i] = (i < keyWords ? key[from + i] : 0) ^ pad;
            }
            length = BLOCK_BYTES;
        }

        private void spreadBlock(int from) {
            System.arraycopy(row, from, words, 0, BLOCK_WORDS);
            for (int k = BLOCK_WORDS; k < ROUNDS; k++) {
                int x = words[k - 15];
                int y = words[k - 2];
                int s0 = (x >>> 7 | x << 25) ^ (x >>> 18 | x << 14) ^ (x >>> 3);
                int s1 = (y >>> 17 | y << 15) ^ (y >>> 19 | y << 13) ^ (y >>> 10);
                words[k] = words[k - 16] + words[k - 7] + s0 + s1;
            }
        }

        private void mixBlock() {
            int a = result[0];
            int b = result[1];
            int c = result[2];
            int d = result[3];
            int e = result[4];
            int f = result[5];
            int g = result[6];
            int h = result[7];
            for (int k = 0; k < ROUNDS; k++) {
                int t = h + ((e >>> 6 | e << 26) ^ (e >>> 11 | e << 21) ^ (e >>> 25 | e << 7))
                        + ((e & f) | (~e & g)) + CONSTANTS[k] + words[k];
                int u = ((a >>> 2 | a << 30) ^ (a >>> 13 | a << 19) ^ (a >>> 22 | a << 10))
                        + ((a & b) ^ (a & c) ^ (b & c));
                h = g;
                g = f;
                f = e;
                e = d + t;
                d = c;
                c = b;
                b = a;
                a = t + u;
            }
            result[0] += a;
            result[1] += b;
            result[2] += c;
            result[3] += d;
            result[4] += e;
            result[5] += f;
            result[6] += g;
            result[7] += h;
        }
    }

    /**
     * The keys of one chain, by their numbers 0 .. 64. Of a chain that a receiver knows those from
     * first to latest stand; places above the latest may hold what a wrong key left there.
     */
    private static final class KeyChain {
        private static final int[] CHAIN_TEXT = {'c', 'h', 'a', 'i', 'n'};
        private static final int[] MAC_TEXT = {'m', 'a', 'c'};

        private final int[] words = new int[(TOP_KEY + 1) * KEY_WORDS];
        int first = NONE;
        int latest = NONE;

        boolean isKnown() {
            return latest != NONE;
        }

        void forget() {
            first = NONE;
            latest = NONE;
        }

        void putTopKey(int a, int b, int c, int d, int e) {
            int from = TOP_KEY * KEY_WORDS;
            words[from] = a;
            words[from + 1] = b;
            words[from + 2] = c;
            words[from + 3] = d;
            words[from + 4] = e;
        }

        /** From key k down to key low: each by the one above it. */
        void fillDown(int k, int low, Sealer sealer) {
            for (int j = k; j > low; j--) {
                sealer.seal(words, j * KEY_WORDS, KEY_WORDS, CHAIN_TEXT, CHAIN_TEXT.length);
                System.arraycopy(sealer.result, 0, words, (j - 1) * KEY_WORDS, KEY_WORDS);
            }
        }

        int byteAt(int k, int i) {
            return byteOf(words, k * KEY_BYTES + i);
        }

        void writeKey(int k, int[] bytes, int from) {
            for (int i = 0; i < KEY_BYTES; i++) {
                bytes[from + i] = byteAt(k, i);
            }
        }

        /** Knows just key k of the sender's chain. */
        void learnFrom(KeyChain sender, int k) {
            System.arraycopy(sender.words, k * KEY_WORDS, words, k * KEY_WORDS, KEY_WORDS);
            first = k;
            latest = k;
        }

        /** Knows just the root that stands in these bytes. */
        void learnRoot(int[] bytes, int from) {
            readKey(0, bytes, from);
            first = 0;
            latest = 0;
        }

        /** Whether these bytes are key k, which is one from first to latest. */
        boolean isKey(int k, int[] bytes, int from) {
            for (int i = 0; i < KEY_BYTES; i++) {
                if (bytes[from + i] != byteAt(k, i)) {
                    return false;
                }
            }
            return true;
        }

        /** Puts these bytes in the place of key k, without trust in them. */
        void readKey(int k, int[] bytes, int from) {
            for (int i = 0; i < KEY_WORDS; i++) {
                words[k * KEY_WORDS + i] = wordAt(bytes, from + 4 * i);
            }
        }

        /** Makes key k the latest, if the one just above the latest so far gives that one. */
        boolean raiseTo(int k, Sealer sealer) {
            int above = (latest + 1) * KEY_WORDS;
            sealer.seal(words, above, KEY_WORDS, CHAIN_TEXT, CHAIN_TEXT.length);
            for (int i = 0; i < KEY_WORDS; i++) {
                if (sealer.result[i] != words[latest * KEY_WORDS + i]) {
                    return false;
                }
            }
            latest = k;
            return true;
        }

        /** The seal, by the code key of key k, of what a packet's code is for. */
        void sealPacket(int k, Packet p, Sealer sealer) {
            sealer.seal(words, k * KEY_WORDS, KEY_WORDS, MAC_TEXT, MAC_TEXT.length);
            System.arraycopy(sealer.result, 0, sealer.codeKey, 0, Sealer.WORDS);
            sealer.seal(sealer.codeKey, 0, Sealer.WORDS, p.bytes, p.codeAt());
        }
    }

    /** A packet's bytes, each 0 .. 255. */
    private static final class Packet {
        static final int HEAD = 6;

        private static final int CODE_BYTES = 10;
        private static final int FRAME = HEAD + CODE_BYTES + KEY_BYTES;

        final int[] bytes;

        Packet(int g, int kind, int n) {
            bytes = new int[FRAME + n];
            bytes[0] = g >>> 24;
            bytes[1] = (g >>> 16) & 255;
            bytes[2] = (g >>> 8) & 255;
            bytes[3] = g & 255;
            bytes[4] = kind;
            bytes[5] = n;
        }

        Packet(Packet other) {
            bytes = other.bytes.clone();
        }

        int interval() {
            return wordAt(bytes, 0);
        }

        int kind() {
            return bytes[4];
        }

        int size() {
            return bytes[5];
        }

        int codeAt() {
            return HEAD + size();
        }

        int shownAt() {
            return codeAt() + CODE_BYTES;
        }

        boolean isBroken() {
            int n = size();
            int g = interval();
            return bytes.length != FRAME + n || n > BULLETIN_LIMIT
                    || (kind() != BULLETIN && kind() != ROOT) || (kind() == ROOT && n != KEY_BYTES)
                    || g < 1 || g > LAST_INTERVAL;
        }

        void writeCode(int[] seal) {
            for (int i = 0; i < CODE_BYTES; i++) {
                bytes[codeAt() + i] = byteOf(seal, i);
            }
        }

        boolean hasCode(int[] seal) {
            for (int i = 0; i < CODE_BYTES; i++) {
                if (bytes[codeAt() + i] != byteOf(seal, i)) {
                    return false;
                }
            }
            return true;
        }

        /** Whether the other one has the same interval and the same code. */
        boolean isTwinOf(Packet other) {
            if (interval() != other.interval()) {
                return false;
            }
            for (int i = 0; i < CODE_BYTES; i++) {
                if (bytes[codeAt() + i] != other.bytes[other.codeAt() + i]) {
                    return false;
                }
            }
            return true;
        }
    }

    /** One receiver: what it knows, holds and has released. */
    private static final class Receiver {
        private static final int HELD = 0;
        private static final int LATE = 1;
        private static final int KEY = 2;
        private static final int TWICE = 3;
        private static final int FULL = 4;
        private static final int BROKEN = 5;
        private static final int CODE = 6;

        private static final int HELD_LIMIT = 16;
        private static final int KEPT_LIMIT = 100;

        private final Clock clock;
        private final Sealer sealer;

        final KeyChain[] known = new KeyChain[CHAINS];
        /** In the order in which they came. */
        final ArrayList<Packet> held = new ArrayList<>();
        /** The first ones that were released. */
        final ArrayList<Packet> kept = new ArrayList<>();
        final int[] counts = new int[CODE + 1];
        int releasedCount;
        int drift;

        Receiver(Clock clock, Sealer sealer) {
            this.clock = clock;
            this.sealer = sealer;
            for (int c = 0; c < CHAINS; c++) {
                known[c] = new KeyChain();
            }
        }

        /** All but the drift: that is the clock's, not what the receiver has learnt. */
        void beginAnew() {
            for (int c = 0; c < CHAINS; c++) {
                known[c].forget();
            }
            held.clear();
            kept.clear();
            Arrays.fill(counts, 0);
            releasedCount = 0;
        }

        int latestInterval() {
            for (int c = CHAINS - 1; c >= 0; c--) {
                if (known[c].isKnown()) {
                    // a root's interval is the last of the chain before, so no lower chain is ahead
                    return c * TOP_KEY + known[c].latest;
                }
            }
            return NONE;
        }

        int take(Packet p) {
            if (p.isBroken()) {
                return BROKEN;
            }
            if (!takeShownKey(p)) {
                return KEY;
            }
            // without a new latest key none of the held ones can go out
            releaseAll();
            int g = p.interval();
            if (clock.canHaveShown(g, drift) || hasKeyFor(g)) {
                return LATE;
            }
            // one that was released need not be looked for: its interval's key is there, so it is late
            if (holdsTwinOf(p)) {
                return TWICE;
            }
            if (held.size() >= HELD_LIMIT) {
                return FULL;
            }
            held.add(p);
            return HELD;
        }

        /** False, when the key that a packet shows is wrong. */
        private boolean takeShownKey(Packet p) {
            int s = p.interval() - clock.lag;
            if (s < 1) {
                return true;
            }
            KeyChain keys = known[chainOf(s)];
            int k = numberInChain(s);
            if (!keys.isKnown() || k < keys.first) {
                return true;
            }
            if (k <= keys.latest) {
                return keys.isKey(k, p.bytes, p.shownAt());
            }
            keys.readKey(k, p.bytes, p.shownAt());
            keys.fillDown(k, keys.latest + 1, sealer);
            return keys.raiseTo(k, sealer);
        }

        /** Whether the latest key of an interval's chain is known and not before the interval. */
        private boolean hasKeyFor(int g) {
            return known[chainOf(g)].latest >= numberInChain(g);
        }

        private boolean holdsTwinOf(Packet p) {
            for (int i = 0; i < held.size(); i++) {
                if (held.get(i).isTwinOf(p)) {
                    return true;
                }
            }
            return false;
        }

        private void releaseAll() {
            for (int turn = 0; turn < HELD_LIMIT; turn++) {
                int next = nextToRelease();
                if (next == NONE) {
                    return;
                }
                Packet p = held.remove(next);
                int g = p.interval();
                // it came before its key or its chain's root did: its key is not below the first
                known[chainOf(g)].sealPacket(numberInChain(g), p, sealer);
                if (p.hasCode(sealer.result)) {
                    letGo(p);
                } else {
                    counts[CODE]++;
                }
            }
        }

        /** The place of the held one that goes out next, or NONE. */
        private int nextToRelease() {
            int best = NONE;
            int lowest = LAST_INTERVAL + 1;
            for (int i = 0; i < held.size(); i++) {
                int g = held.get(i).interval();
                if (g < lowest && hasKeyFor(g)) {
                    best = i;
                    lowest = g;
                }
            }
            return best;
        }

        private void letGo(Packet p) {
            releasedCount++;
            if (kept.size() < KEPT_LIMIT) {
                kept.add(p);
            }
            int behind = chainOf(p.interval()) + 1;
            if (p.kind() == ROOT && behind < CHAINS && !known[behind].isKnown()) {
                known[behind].learnRoot(p.bytes, Packet.HEAD);
            }
        }
    }
}
