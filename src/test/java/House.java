import java.util.ArrayList;
import java.util.List;

/**
 * A ShareHouse in a test, which keeps to the 512 calls that the document promises. Reading an OUT takes a call a byte, so
 * the bytes are read from other objects, made for it, that had the same calls before.
 */
final class House {
    private static final int MOST = 512;

    private final ShareHouse own = new ShareHouse();
    private final List<Call> past = new ArrayList<>();
    private final boolean bounded;
    private int calls;

    /** A call that may change something. */
    private interface Call {
        int on(ShareHouse h);
    }

    private House(boolean bounded) {
        this.bounded = bounded;
    }

    static House within512() {
        return new House(true);
    }

    /** For runs that only look whether answers are sane, however long they go on. */
    static House withoutEnd() {
        return new House(false);
    }

    private int did(Call call) {
        count();
        if (bounded) {
            past.add(call);
        }
        return call.on(own);
    }

    private void count() {
        calls++;
        if (bounded && calls == MOST + 1) {
            Check.eq("calls of one object in a test", calls, MOST);
        }
    }

    int feed(int a, int b, int c, int d, int e) {
        return did(h -> h.feed(a, b, c, d, e));
    }

    int cut(int n) {
        return did(h -> h.cut(n));
    }

    boolean share(int i) {
        return did(h -> h.share(i) ? 1 : 0) == 1;
    }

    boolean connect(int c) {
        return did(h -> h.connect(c) ? 1 : 0) == 1;
    }

    boolean hang(int c) {
        return did(h -> h.hang(c) ? 1 : 0) == 1;
    }

    int come(int c) {
        return did(h -> h.come(c));
    }

    boolean tick(int n) {
        return did(h -> h.tick(n) ? 1 : 0) == 1;
    }

    int crash(int k) {
        return did(h -> h.crash(k));
    }

    int drop(int c) {
        return did(h -> h.drop(c));
    }

    boolean isOpen(int c) {
        count();
        return own.isOpen(c);
    }

    int outs(int c) {
        count();
        return own.outs(c);
    }

    int told(int what) {
        count();
        return own.told(what);
    }

    int out(int c, int i) {
        count();
        return own.out(c, i);
    }

    /** All bytes of an OUT. */
    byte[] bytes(int c) {
        byte[] all = new byte[Math.max(0, outs(c))];
        ShareHouse from = own;
        int left = bounded ? 0 : all.length;
        for (int i = 0; i < all.length; i++) {
            if (left == 0) {
                from = again();
                left = Math.max(1, MOST - past.size());
            }
            all[i] = (byte) from.out(c, i);
            left--;
        }
        return all;
    }

    private ShareHouse again() {
        ShareHouse h = new ShareHouse();
        for (Call call : past) {
            call.on(h);
        }
        return h;
    }
}
