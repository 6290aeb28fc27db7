import java.util.ArrayList;
import java.util.Arrays;
import java.util.List;

/**
 * Two houses with the same past: one gets a request that is refused, the other an ECHO in its place. From then on both
 * must tell the same of everything that can be asked: so nothing was changed by what was refused.
 */
final class Twin {
    /** How a house and its peers come to be. */
    interface Past {
        Peer[] begin();
    }

    private Twin() {
    }

    static void refused(String what, Past past, int who, Req request, int status) {
        Peer[] one = past.begin();
        Peer[] two = past.begin();
        Check.eq(what, one[who].status(request.copy()), status);
        Check.eq(what + ": nothing was sent but the answer", one[who].notes.size(), 0);
        two[who].ask(Peer.echo());
        List<byte[]> left = survey(one);
        List<byte[]> right = survey(two);
        Check.eq(what + ": so much is told", left.size(), right.size());
        for (int i = 0; i < left.size() && i < right.size(); i++) {
            Check.is(what + ": the same is told at " + i, Arrays.equals(left.get(i), right.get(i)));
        }
    }

    private static List<byte[]> survey(Peer[] peers) {
        Wire w = peers[0].wire;
        List<byte[]> all = new ArrayList<>();
        counts(w, all);
        for (Peer p : peers) {
            all.add(send(p, Peer.info(1, 1, 18, 80), Peer.info(2, 1, 18, 80), Peer.info(3, 1, 18, 80),
                    Peer.info(4, 1, 18, 80), Peer.info(5, 1, 18, 80), Peer.read(1, 0, 20), Peer.read(2, 0, 20)));
            all.add(send(p, Peer.list(3, 12, 2, "", 100), Peer.list(3, 1, 1, "*", 400),
                    Peer.lock(1, 0, -1L, 0x11), Peer.lock(2, 0, -1L, 0x12), Peer.shortCreate("g", 0x80, 7, 1, 0, 0)));
        }
        counts(w, all);
        for (int c = 0; c < peers.length; c++) {
            all.add(w.house.bytes(c));
        }
        w.house.crash(0);
        Peer p = Peer.on(w, 0);
        all.add(send(p, Peer.create("", 1, 7, 1, 0, 0), Peer.list(-1, 1, 0, "*", 800).related(),
                Peer.create("d", 1, 7, 1, 0, 0), Peer.list(-1, 1, 0, "*", 400).related()));
        counts(w, all);
        return all;
    }

    private static void counts(Wire w, List<byte[]> all) {
        byte[] counts = new byte[9];
        for (int i = 1; i <= 8; i++) {
            counts[i] = (byte) w.house.told(i);
        }
        all.add(counts);
    }

    private static byte[] send(Peer p, Req... requests) {
        for (Req r : requests) {
            p.mine(r);
        }
        p.wire.send(p.c, requests);
        byte[] bytes = p.wire.house.bytes(p.c);
        p.wire.house.drop(p.c);
        return bytes;
    }
}
