import java.io.ByteArrayOutputStream;
import java.nio.ByteBuffer;

/** Rows of bytes, as the document builds them, for offices with the chains of Scene. */
final class Rows {
    private Rows() {
    }

    /** Fills an office's buffer; its 32 bytes. */
    static byte[] fill(Office x, int seed) {
        ByteBuffer buffer = ByteBuffer.allocate(32);
        for (int i = 0; i < 8; i++) {
            int word = seed * (i + 1) * 0x9e3779b1;
            buffer.putInt(word);
            x.load(i, word);
        }
        return buffer.array();
    }

    static byte[] packet(int g, int kind, byte[] body, int lag) {
        ByteArrayOutputStream row = new ByteArrayOutputStream();
        row.writeBytes(ByteBuffer.allocate(4).putInt(g).array());
        row.write(kind);
        row.write(body.length);
        row.writeBytes(body);
        row.writeBytes(Crypto.code(row.toByteArray(), Scene.keyOf(g)));
        row.writeBytes(g > lag ? Scene.keyOf(g - lag) : new byte[20]);
        return row.toByteArray();
    }

    /** That a packet has these bytes and none behind them. */
    static void packetIs(Check check, Office x, int p, byte[] due) {
        String what = "packet of interval " + ((due[2] & 255) << 8 | due[3] & 255);
        for (int i = 0; i < due.length; i++) {
            check.is(what + " byte " + i, due[i] & 255, x.packet(p, i));
        }
        check.fails(what + " behind its end", IndexOutOfBoundsException.class, () -> x.packet(p, due.length));
    }
}
