import java.util.ArrayList;
import java.util.Arrays;
import java.util.List;

/** One answer of the house. */
final class Answer {
    final byte[] bytes;

    Answer(byte[] bytes) {
        this.bytes = bytes;
    }

    static List<Answer> split(byte[] message) {
        List<Answer> all = new ArrayList<>();
        int at = 0;
        while (true) {
            Answer rest = new Answer(Arrays.copyOfRange(message, at, message.length));
            Check.eq("the header's beginning", rest.n(0, 6), 0x0040424D53FEL);
            int next = (int) rest.n(20, 4);
            if (next == 0) {
                all.add(rest);
                return all;
            }
            Check.eq("NEXT by 8", next % 8, 0);
            all.add(new Answer(Arrays.copyOfRange(message, at, at + next)));
            at += next;
        }
    }

    long n(int at, int many) {
        long value = 0;
        for (int i = many - 1; i >= 0; i--) {
            value = value << 8 | (at + i < bytes.length ? bytes[at + i] & 255 : 0);
        }
        return value;
    }

    int status() {
        return (int) n(8, 4);
    }

    int command() {
        return (int) n(12, 2);
    }

    long credits() {
        return n(14, 2);
    }

    long flags() {
        return n(16, 4);
    }

    long id() {
        return n(24, 8);
    }

    long async() {
        return n(32, 8);
    }

    long tree() {
        return n(36, 4);
    }

    long session() {
        return n(40, 8);
    }

    int length() {
        return bytes.length;
    }

    /** The text of units at a place. */
    String text(int at, int units) {
        StringBuilder s = new StringBuilder();
        for (int i = 0; i < units; i++) {
            s.append((char) n(at + 2 * i, 2));
        }
        return s.toString();
    }
}
