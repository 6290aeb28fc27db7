import java.util.ArrayDeque;
import java.util.ArrayList;
import java.util.List;

/** A house with its tape, for tests. */
final class Wire {
    final House house;

    Wire() {
        this(House.within512());
    }

    Wire(House house) {
        this.house = house;
    }

    void tape(byte[] bytes) {
        int had = 0;
        for (int i = 0; i < bytes.length; i += 20) {
            int[] n = new int[5];
            for (int j = 0; j < 20; j++) {
                int b = i + j < bytes.length ? bytes[i + j] & 255 : 0;
                n[j / 4] |= b << (24 - 8 * (j % 4));
            }
            had = house.feed(n[0], n[1], n[2], n[3], n[4]);
        }
        if (had > bytes.length) {
            house.cut(bytes.length);
        }
    }

    boolean share(int i, String name) {
        tape(name.getBytes(java.nio.charset.StandardCharsets.ISO_8859_1));
        return house.share(i);
    }

    /** Brings raw bytes to a connection. */
    int come(int c, byte[] bytes) {
        tape(bytes);
        return house.come(c);
    }

    /** Brings requests to a connection as one message. */
    int send(int c, Req... requests) {
        return come(c, framed(Req.message(requests)));
    }

    static byte[] framed(byte[] message) {
        byte[] all = new byte[message.length + 4];
        all[1] = (byte) (message.length >> 16);
        all[2] = (byte) (message.length >> 8);
        all[3] = (byte) message.length;
        System.arraycopy(message, 0, all, 4, message.length);
        return all;
    }

    /** All messages in an OUT, which is empty then. */
    ArrayDeque<List<Answer>> take(int c) {
        byte[] all = house.bytes(c);
        house.drop(c);
        ArrayDeque<List<Answer>> messages = new ArrayDeque<>();
        int at = 0;
        while (at < all.length) {
            Check.eq("first byte of a message", all[at], 0);
            int size = (all[at + 1] & 255) << 16 | (all[at + 2] & 255) << 8 | all[at + 3] & 255;
            messages.add(Answer.split(java.util.Arrays.copyOfRange(all, at + 4, at + 4 + size)));
            at += 4 + size;
        }
        return messages;
    }

    /** All answers in an OUT, one behind the other. */
    List<Answer> answers(int c) {
        List<Answer> all = new ArrayList<>();
        for (List<Answer> message : take(c)) {
            all.addAll(message);
        }
        return all;
    }
}
