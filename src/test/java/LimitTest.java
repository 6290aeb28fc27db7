import java.util.ArrayList;
import java.util.List;

/**
 * Part 1: 80 nodes at most, roots too. An object has 512 calls, of which a feed brings 20 bytes: so requests are as short
 * as the document lets them be, in as few messages.
 */
public final class LimitTest {
    private static final int ALL = Peer.ALL;

    private final Wire wire = new Wire();
    private final List<Req> next = new ArrayList<>();
    private long id;

    private LimitTest(int shares) {
        for (int i = 0; i < shares; i++) {
            Check.is("share", wire.share(i, "" + (char) ('A' + i)));
        }
        wire.house.connect(0);
        next.add(Req.of(0, 36).put(66, 2, 1).put(100, 2, 0x0202));
        next.add(Req.of(1, 25).put(76, 2, 66).put(78, 2, 1).put(66, 1, 'u').put(80, 8, 0));
        next.add(Req.of(3, 9).textAt(68, 70, 66, "A").related());
    }

    public static void main(String[] args) {
        theLastNode();
        noNodeForAShare();
        theLastNodeForAShare();
        fortyOpensOf80Nodes();
        Check.end("LimitTest");
    }

    private void make(int from, int many) {
        for (int i = from; i < from + many; i++) {
            next.add(Peer.shortCreate("n" + i, ALL, 7, 2, 0, 0).related());
        }
    }

    /** The same as the beginning of a message, whose first one is not RELATED. */
    private void make(int from, int many, long tree) {
        next.add(Peer.shortCreate("n" + from, ALL, 7, 2, 0, 0).in(1, tree));
        make(from + 1, many - 1);
    }

    /** Ends the tree, and with it all opens, of which there may be 40; the next tree is another one of the same share. */
    private void closeAll(long tree) {
        next.add(Req.of(4, 4).in(1, tree));
        next.add(Req.of(3, 9).textAt(68, 70, 66, "A").related());
    }

    /** What was gathered as one message. */
    private byte[] message() {
        for (Req r : next) {
            r.id(id);
            id++;
        }
        byte[] m = Wire.framed(Req.message(next.toArray(new Req[0])));
        next.clear();
        return m;
    }

    private static byte[] joined(byte[] a, byte[] b) {
        byte[] all = java.util.Arrays.copyOf(a, a.length + b.length);
        System.arraycopy(b, 0, all, a.length, b.length);
        return all;
    }

    /** So many creates, in messages of up to 4000 bytes, of which two come at once; more may stand behind them. */
    private void fill(int many, Req... more) {
        make(0, 31);
        byte[] first = message();
        closeAll(1);
        make(31, 31);
        Check.eq("two messages", wire.come(0, joined(first, message())), 2);
        closeAll(2);
        make(62, many - 62);
        next.addAll(List.of(more));
        Check.eq("the third", wire.come(0, message()), 1);
    }

    private static void theLastNode() {
        LimitTest t = new LimitTest(4);
        t.fill(76, Peer.shortCreate("x", ALL, 7, 3, 0, 0).related());
        Check.eq("nodes", t.wire.house.told(2), 80);
        List<Answer> all = t.wire.answers(0);
        for (int i = 0; i + 1 < all.size(); i++) {
            Check.eq("made " + i, all.get(i).status(), Status.OK);
        }
        Check.eq("requests", all.size(), 3 + 31 + 2 + 31 + 2 + 14 + 1);
        Check.eq("the 81st", all.get(all.size() - 1).status(), Status.DISK_FULL);
    }

    private static void noNodeForAShare() {
        LimitTest t = new LimitTest(3);
        t.fill(77);
        Check.not("80 nodes", t.wire.share(3, "D"));
        Check.eq("nodes", t.wire.house.told(2), 80);
    }

    private static void theLastNodeForAShare() {
        LimitTest t = new LimitTest(3);
        t.fill(76);
        Check.is("the 80th node", t.wire.share(3, "D"));
        Check.eq("nodes", t.wire.house.told(2), 80);
    }

    /** "40 opens: RESOURCES (ahead of DISK_FULL)". */
    private static void fortyOpensOf80Nodes() {
        LimitTest t = new LimitTest(4);
        t.make(0, 31);
        byte[] first = t.message();
        t.make(31, 5, 1);
        t.closeAll(1);
        t.make(36, 26);
        Check.eq("two messages", t.wire.come(0, joined(first, t.message())), 2);
        t.make(62, 14, 2);
        t.next.add(Peer.shortCreate("x", ALL, 7, 3, 0, 0).related());
        Check.eq("the third", t.wire.come(0, t.message()), 1);
        Check.eq("nodes", t.wire.house.told(2), 80);
        Check.eq("opens", t.wire.house.told(3), 40);
        List<Answer> all = t.wire.answers(0);
        Check.eq("the 80th node", all.get(all.size() - 2).status(), Status.OK);
        Check.eq("the next", all.get(all.size() - 1).status(), Status.RESOURCES);
    }
}
