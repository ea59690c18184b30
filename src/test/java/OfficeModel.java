import java.io.ByteArrayOutputStream;
import java.nio.ByteBuffer;
import java.util.ArrayList;
import java.util.Arrays;
import java.util.HashSet;
import java.util.List;
import java.util.Set;

/** The document's words once more, as plain as can be, by the Java library; nothing is kept ready. */
final class OfficeModel {
    private record Known(int first, int latest, byte[] key) {
    }

    private static final class Taker {
        int drift;
        Known[] known = new Known[8];
        List<byte[]> held = new ArrayList<>();
        List<byte[]> out = new ArrayList<>();
        Set<String> outNames = new HashSet<>();
        int[] counts = new int[7];
    }

    private final int lag;
    private final int ticks;
    private final int error;
    private int time;
    private final ByteBuffer buffer = ByteBuffer.allocate(32);
    private final List<byte[]> tops = new ArrayList<>();
    private final List<byte[]> packets = new ArrayList<>();
    private final Taker[] takers = new Taker[8];

    OfficeModel(int lag, int ticks, int error) {
        this.lag = Math.floorMod(lag, 8) + 1;
        this.ticks = Math.floorMod(ticks, 1000) + 1;
        this.error = Math.floorMod(error, 10001);
        for (int r = 0; r < 8; r++) {
            takers[r] = new Taker();
        }
    }

    private static void index(boolean fine) {
        if (!fine) {
            throw new IndexOutOfBoundsException();
        }
    }

    private static void argument(boolean fine) {
        if (!fine) {
            throw new IllegalArgumentException();
        }
    }

    private static void state(boolean fine) {
        if (!fine) {
            throw new IllegalStateException();
        }
    }

    private static boolean in(int x, int low, int high) {
        return low <= x && x <= high;
    }

    private int now() {
        return time / ticks + 1;
    }

    /** The key with this number of one of the sender's chains. */
    private byte[] chainKey(int c, int number) {
        return Crypto.down(tops.get(c), 64 - number);
    }

    private byte[] intervalKey(int g) {
        return chainKey((g - 1) / 64, (g - 1) % 64 + 1);
    }

    int chain(int a, int b, int c, int d, int e) {
        state(tops.size() < 8);
        tops.add(Crypto.topKey(a, b, c, d, e));
        return tops.size() - 1;
    }

    int tick(int n) {
        argument(in(n, 1, 100000));
        state((time + n) / ticks + 1 <= 512);
        time += n;
        return time;
    }

    int load(int i, int word) {
        index(in(i, 0, 7));
        int before = buffer.getInt(4 * i);
        buffer.putInt(4 * i, word);
        return before;
    }

    int digest(int n, int i) {
        argument(in(n, 0, 32));
        index(in(i, 0, 7));
        return Crypto.word(Crypto.digest(Arrays.copyOf(buffer.array(), n)), i);
    }

    private int add(int kind, byte[] body) {
        if (packets.size() == 200) {
            throw new UnsupportedOperationException();
        }
        int g = now();
        ByteArrayOutputStream row = new ByteArrayOutputStream();
        row.writeBytes(ByteBuffer.allocate(4).putInt(g).array());
        row.write(kind);
        row.write(body.length);
        row.writeBytes(body);
        row.writeBytes(Crypto.code(row.toByteArray(), intervalKey(g)));
        row.writeBytes(g > lag ? intervalKey(g - lag) : new byte[20]);
        packets.add(row.toByteArray());
        return packets.size() - 1;
    }

    int send(int n) {
        argument(in(n, 0, 32));
        state((now() - 1) / 64 < tops.size());
        return add(0, Arrays.copyOf(buffer.array(), n));
    }

    int root() {
        state((now() - 1) / 64 < tops.size());
        state((now() - 1) / 64 + 1 < tops.size());
        return add(1, packets.size() == 200 ? new byte[0] : chainKey((now() - 1) / 64 + 1, 0));
    }

    int packet(int p, int i) {
        index(in(p, 0, packets.size() - 1) && in(i, 0, packets.get(p).length - 1));
        return packets.get(p)[i] & 255;
    }

    int key(int g, int i) {
        index(in(g, 0, 512) && in(i, 0, 19));
        if (g % 64 == 0 && g / 64 < tops.size()) {
            return chainKey(g / 64, 0)[i] & 255;
        }
        state(g > 0 && (g - 1) / 64 < tops.size());
        return intervalKey(g)[i] & 255;
    }

    void join(int r, int g) {
        index(in(r, 0, 7) && in(g, 0, 511));
        int c = g % 64 == 0 ? g / 64 : (g - 1) / 64;
        state(c < tops.size());
        int drift = takers[r].drift;
        takers[r] = new Taker();
        takers[r].drift = drift;
        takers[r].known[c] = new Known(g, g, chainKey(c, g - 64 * c));
    }

    int drift(int r, int drift) {
        index(in(r, 0, 7));
        argument(in(drift, -10000, 10000));
        int before = takers[r].drift;
        takers[r].drift = drift;
        return before;
    }

    int arrive(int r, int p, int i, int mask) {
        index(in(r, 0, 7) && in(p, 0, packets.size() - 1) && in(i, 0, packets.get(p).length - 1));
        argument(in(mask, 0, 255));
        byte[] copy = packets.get(p).clone();
        copy[i] ^= (byte) mask;
        int outcome = take(takers[r], copy);
        takers[r].counts[outcome]++;
        return outcome;
    }

    private static int intervalOf(byte[] row) {
        return ByteBuffer.wrap(row).getInt(0);
    }

    private static byte[] codeOf(byte[] row) {
        return Arrays.copyOfRange(row, 6 + row[5], 16 + row[5]);
    }

    private static String nameOf(byte[] row) {
        return intervalOf(row) + ":" + Arrays.toString(codeOf(row));
    }

    private int take(Taker to, byte[] row) {
        int n = row[5] & 255;
        int g = intervalOf(row);
        if (row.length != 36 + n || !in(row[4], 0, 1) || n > 32 || row[4] == 1 && n != 20
                || !in(g, 1, 512)) {
            return 5;
        }
        int s = g - lag;
        byte[] shown = Arrays.copyOfRange(row, 16 + n, 36 + n);
        if (s >= 1 && to.known[(s - 1) / 64] != null) {
            Known keys = to.known[(s - 1) / 64];
            if (s > keys.latest) {
                if (!Arrays.equals(Crypto.down(shown, s - keys.latest), keys.key)) {
                    return 2;
                }
                to.known[(s - 1) / 64] = new Known(keys.first, s, shown);
                release(to);
            } else if (s >= keys.first
                    && !Arrays.equals(Crypto.down(keys.key, keys.latest - s), shown)) {
                return 2;
            }
        }
        if (time + to.drift + error >= (g + lag - 1) * ticks || isShown(to, g)) {
            return 1;
        }
        for (byte[] other : to.held) {
            if (nameOf(other).equals(nameOf(row))) {
                return 3;
            }
        }
        if (to.outNames.contains(nameOf(row))) {
            return 3;
        }
        if (to.held.size() == 16) {
            return 4;
        }
        to.held.add(row);
        return 0;
    }

    private boolean isShown(Taker to, int g) {
        Known keys = to.known[(g - 1) / 64];
        return keys != null && keys.latest >= g;
    }

    private void release(Taker to) {
        while (true) {
            byte[] next = null;
            for (byte[] row : to.held) {
                if (isShown(to, intervalOf(row)) && (next == null || intervalOf(row) < intervalOf(next))) {
                    next = row;
                }
            }
            if (next == null) {
                return;
            }
            byte[] gone = next;
            to.held.removeIf(row -> row == gone);
            int g = intervalOf(next);
            int c = (g - 1) / 64;
            byte[] key = Crypto.down(to.known[c].key, to.known[c].latest - g);
            if (!Arrays.equals(Crypto.code(Arrays.copyOf(next, 6 + next[5]), key), codeOf(next))) {
                to.counts[6]++;
                continue;
            }
            to.out.add(next);
            to.outNames.add(nameOf(next));
            if (next[4] == 1 && to.known[c + 1] == null) {
                to.known[c + 1] = new Known(64 * c + 64, 64 * c + 64, Arrays.copyOfRange(next, 6, 26));
            }
        }
    }

    int receiver(int r, int what) {
        index(in(r, 0, 7) && in(what, 0, 9));
        Taker of = takers[r];
        if (what <= 6) {
            return of.counts[what];
        }
        if (what == 7) {
            return of.out.size();
        }
        if (what == 8) {
            return of.held.size();
        }
        int latest = -1;
        for (Known keys : of.known) {
            if (keys != null) {
                latest = Math.max(latest, keys.latest);
            }
        }
        return latest;
    }

    private byte[] kept(int r, int k) {
        index(in(r, 0, 7) && in(k, 0, Math.min(100, takers[r].out.size()) - 1));
        return takers[r].out.get(k);
    }

    int released(int r, int k, int what) {
        byte[] row = kept(r, k);
        index(in(what, 0, 2));
        return what == 0 ? intervalOf(row) : row[3 + what];
    }

    int releasedByte(int r, int k, int i) {
        byte[] row = kept(r, k);
        index(in(i, 0, row[5] - 1));
        return row[6 + i] & 255;
    }

    int count(int what) {
        int[] all = {time, now(), tops.size(), packets.size()};
        return in(what, 0, 3) ? all[what] : -1;
    }
}
