import java.io.ByteArrayOutputStream;

/** A request under the hands of a test: bytes that grow where they are put. What is not put is noise, as it may be any. */
final class Req {
    private byte[] bytes = new byte[64];

    Req(int command) {
        put(0, 4, 0x424D53FEL);
        put(4, 2, 64);
        put(6, 2, 1);
        put(12, 2, command);
        put(14, 2, 1);
        put(8, 4, 0x5A5A5A5AL);
        put(48, 8, 0xA5A5A5A5A5A5A5A5L);
        put(56, 8, 0x5AA55AA55AA55AA5L);
    }

    /** With the body's size first. */
    static Req of(int command, int size) {
        return new Req(command).put(64, 2, size).length(64 + size - size % 2);
    }

    Req put(int at, int many, long value) {
        length(Math.max(bytes.length, at + many));
        for (int i = 0; i < many; i++) {
            bytes[at + i] = (byte) (value >> (8 * i));
        }
        return this;
    }

    Req file(int at, long serial) {
        return put(at, 8, serial).put(at + 8, 8, serial);
    }

    Req length(int n) {
        int had = bytes.length;
        bytes = java.util.Arrays.copyOf(bytes, n);
        for (int i = had; i < n; i++) {
            bytes[i] = (byte) 0xA7;
        }
        return this;
    }

    int size() {
        return bytes.length;
    }

    long n(int at, int many) {
        return new Answer(bytes).n(at, many);
    }

    /** Puts a text behind all, told by where and how long at two places of 2 bytes. */
    Req text(int whereAt, int longAt, String text) {
        int where = bytes.length;
        put(whereAt, 2, where);
        put(longAt, 2, 2L * text.length());
        return units(where, text);
    }

    /** Puts a text where the body has room for it, told by where and how long at two places of 2 bytes. */
    Req textAt(int whereAt, int longAt, int where, String text) {
        return put(whereAt, 2, where).put(longAt, 2, 2L * text.length()).units(where, text);
    }

    Req copy() {
        Req r = new Req(0);
        r.bytes = bytes.clone();
        return r;
    }

    Req units(int at, String text) {
        for (int i = 0; i < text.length(); i++) {
            put(at + 2 * i, 2, text.charAt(i));
        }
        return this;
    }

    Req credits(int n) {
        return put(14, 2, n);
    }

    Req flags(long flags) {
        return put(16, 4, flags);
    }

    Req related() {
        return flags(n(16, 4) | 4);
    }

    Req id(long id) {
        return put(24, 8, id);
    }

    Req in(long session, long tree) {
        return put(40, 8, session).put(36, 4, tree);
    }

    byte[] raw() {
        return bytes.clone();
    }

    /** Links requests to one message. */
    static byte[] message(Req... requests) {
        ByteArrayOutputStream all = new ByteArrayOutputStream();
        for (int i = 0; i < requests.length; i++) {
            Req r = requests[i];
            if (i + 1 < requests.length) {
                int size = (r.size() + 7) / 8 * 8;
                r.length(size).put(20, 4, size);
            }
            all.writeBytes(r.raw());
        }
        return all.toByteArray();
    }
}
