/** Promises 1 to 3, 5 to 9 and 11 to 14, and "what reads the TAPE (8000 bytes) uses it up, whatever it answers". */
public final class CallEdgeTest {
    private static final int[] ODD = {-1, 6, 7, 100, Integer.MIN_VALUE, Integer.MAX_VALUE};

    private CallEdgeTest() {
    }

    public static void main(String[] args) {
        aNewObject();
        highestByteFirst();
        twentyBytes();
        atMost8000();
        feedThatIsRefused();
        cutKeepsTheFirst();
        cutBelow0OrAbove();
        shareUsesUpTheTape();
        comeUsesUpTheTape();
        othersLeaveTheTape();
        connectTwice();
        hangOfNone();
        comeCountsMessages();
        comeInPieces();
        tickOf0To1000000();
        nowOf32Bits();
        outsAndDrop();
        outOfPlace();
        toldOfOthers();
        toldCounts();
        Check.end("CallEdgeTest");
    }

    /** "No shares, no connections, NOW 0." */
    private static void aNewObject() {
        ShareHouse h = new ShareHouse();
        Check.eq("NONE", ShareHouse.NONE, -1);
        for (int what = 0; what <= 8; what++) {
            Check.eq("told " + what, h.told(what), 0);
        }
        for (int c = 0; c < 6; c++) {
            Check.not("isOpen", h.isOpen(c));
            Check.eq("outs", h.outs(c), 0);
            Check.eq("out", h.out(c, 0), -1);
            Check.eq("drop", h.drop(c), 0);
        }
        Check.eq("the tape is empty", h.cut(0), 0);
        Check.eq("it has no byte", h.cut(1), -1);
    }

    /** "each number's highest first". */
    private static void highestByteFirst() {
        ShareHouse h = new ShareHouse();
        h.feed(0x41424344, 0x45464748, 0x494A4B4C, 0x4D4E4F50, 0x51525354);
        h.cut(12);
        h.share(0);
        h.feed(0x61626364, 0x65666768, 0x696A6B6C, 0, 0);
        h.cut(12);
        Check.not("the same name", h.share(1));
        h.feed(0x64636261, 0, 0, 0, 0);
        h.cut(4);
        Check.is("another", h.share(1));
        h.feed(0x41424344, 0, 0, 0, 0);
        h.feed(0x45464748, 0x49000000, 0, 0, 0);
        h.cut(24);
        Check.not("a 0 is no unit", h.share(2));
        h.feed(0x80FF0000, 0, 0, 0, 0);
        h.cut(2);
        Check.not("nor is what has its highest bit", h.share(2));
    }

    /** "Twenty bytes come behind the tape: how many it has." */
    private static void twentyBytes() {
        ShareHouse h = new ShareHouse();
        Check.eq("20", h.feed(0, 0, 0, 0, 0), 20);
        Check.eq("cut", h.cut(3), 17);
        Check.eq("23", h.feed(-1, -1, -1, -1, -1), 23);
        Check.eq("43", h.feed(1, 1, 1, 1, 1), 43);
    }

    /** "NONE: there would be more than 8000." */
    private static void atMost8000() {
        ShareHouse h = new ShareHouse();
        for (int i = 1; i <= 399; i++) {
            h.feed(i, i, i, i, i);
        }
        Check.eq("7980", h.cut(7980), 0);
        Check.eq("8000", h.feed(0, 0, 0, 0, 0), 8000);
        Check.eq("above", h.feed(0, 0, 0, 0, 0), -1);
        Check.eq("cut", h.cut(7981), 19);
        Check.eq("8001 would be", h.feed(0, 0, 0, 0, 0), -1);
        Check.eq("cut one", h.cut(7980), 1);
        Check.eq("8000 again", h.feed(0, 0, 0, 0, 0), 8000);
    }

    /** What is refused changes nothing. */
    private static void feedThatIsRefused() {
        ShareHouse h = new ShareHouse();
        h.connect(0);
        for (int i = 1; i <= 400; i++) {
            h.feed(0, 0, 0, 0, 0);
        }
        Check.eq("refused", h.feed(0x41414141, 0x41414141, 0, 0, 0), -1);
        Check.eq("8000 still", h.cut(8000), 0);
        Check.eq("cut", h.cut(0), 8000);
        h.feed(0x42000000, 0, 0, 0, 0);
        h.cut(1);
        Check.is("share", h.share(0));
    }

    /** "The tape's first n bytes stay: how many went." */
    private static void cutKeepsTheFirst() {
        ShareHouse h = new ShareHouse();
        h.feed(0x41424344, 0x45464748, 0, 0, 0);
        Check.eq("all stay", h.cut(20), 0);
        Check.eq("8 stay", h.cut(8), 12);
        Check.eq("2 stay", h.cut(2), 6);
        Check.is("share", h.share(0));
        h.feed(0x41420000, 0, 0, 0, 0);
        Check.eq("again", h.cut(2), 18);
        Check.not("AB", h.share(1));
        h.feed(1, 1, 1, 1, 1);
        Check.eq("none stay", h.cut(0), 20);
        Check.eq("nothing to go", h.cut(0), 0);
    }

    /** "NONE: n is below 0, or it has fewer." */
    private static void cutBelow0OrAbove() {
        ShareHouse h = new ShareHouse();
        h.feed(0x41000000, 0, 0, 0, 0);
        for (int n : new int[] {-1, 21, 8000, Integer.MIN_VALUE, Integer.MAX_VALUE}) {
            Check.eq("cut " + n, h.cut(n), -1);
        }
        Check.eq("20 still", h.cut(20), 0);
        Check.eq("cut 1", h.cut(1), 19);
        Check.eq("cut 2", h.cut(2), -1);
        Check.is("share", h.share(0));
    }

    private static void feedName(ShareHouse h, int name) {
        h.feed(name, 0, 0, 0, 0);
        h.cut(2);
    }

    /** share: whether it answers true, or false for any of its reasons. */
    private static void shareUsesUpTheTape() {
        ShareHouse h = new ShareHouse();
        feedName(h, 0x41410000);
        Check.is("true", h.share(0));
        Check.eq("used up", h.cut(1), -1);
        feedName(h, 0x42420000);
        Check.not("no such SHARE", h.share(4));
        Check.eq("used up 4", h.cut(1), -1);
        feedName(h, 0x42420000);
        Check.not("below 0", h.share(-1));
        Check.eq("used up -1", h.cut(1), -1);
        feedName(h, 0x42420000);
        Check.not("told already", h.share(0));
        Check.eq("used up by what is told", h.cut(1), -1);
        feedName(h, 0x61610000);
        Check.not("another has it", h.share(1));
        Check.eq("used up by another's", h.cut(1), -1);
        feedName(h, 0x42000000);
        Check.not("no such name", h.share(1));
        Check.eq("used up by no name", h.cut(1), -1);
        Check.not("no tape", h.share(1));
        Check.eq("nodes", h.told(2), 1);
        feedName(h, 0x42420000);
        Check.is("it can be had still", h.share(1));
    }

    private static void comeUsesUpTheTape() {
        ShareHouse h = new ShareHouse();
        for (int c : ODD) {
            h.feed(0, 0, 0, 0, 0);
            Check.eq("come " + c, h.come(c), -1);
            Check.eq("used up " + c, h.cut(1), -1);
        }
        h.feed(0, 0, 0, 0, 0);
        Check.eq("not there", h.come(2), -1);
        Check.eq("used up", h.cut(1), -1);
        h.connect(2);
        h.feed(0, 64, 0, 0, 0);
        h.cut(6);
        Check.eq("a length of 0 cuts", h.come(2), 1);
        Check.eq("used up by what it was CUT at", h.cut(1), -1);
        h.connect(2);
        h.feed(0x00000040, 0, 0, 0, 0);
        Check.eq("not whole", h.come(2), 0);
        Check.eq("used up by what is not whole", h.cut(1), -1);
        Check.eq("no bytes", h.come(2), 0);
    }

    private static void othersLeaveTheTape() {
        ShareHouse h = new ShareHouse();
        h.feed(0x41000000, 0, 0, 0, 0);
        h.cut(1);
        h.connect(1);
        h.hang(1);
        h.tick(5);
        h.crash(0);
        h.drop(1);
        h.told(2);
        h.out(1, 0);
        Check.eq("one byte", h.cut(1), 0);
        Check.is("share", h.share(0));
    }

    /** "False: no such one, it is there." */
    private static void connectTwice() {
        Peer p = Peer.bare(new Wire(), 3);
        p.setUp("u");
        p.wire.send(3, p.mine(Peer.echo()));
        Check.not("it is there", p.wire.house.connect(3));
        Check.eq("its OUT stays", p.wire.house.outs(3), 72);
        Check.eq("its session, too", p.wire.house.told(6), 1);
        p.wire.house.drop(3);
        Check.eq("and what it has negotiated", p.status(Peer.echo()), Status.OK);
        p.wire.house.hang(3);
        Check.is("it is not there", p.wire.house.connect(3));
        Check.is("isOpen", p.wire.house.isOpen(3));
        p.wire.send(3, Peer.echo().id(0));
        Check.not("it begins anew: no COMMAND before NEGOTIATE", p.wire.house.isOpen(3));
    }

    /** "False: it is not there." */
    private static void hangOfNone() {
        Wire w = new Wire();
        w.house.connect(1);
        for (int c : ODD) {
            Check.not("hang " + c, w.house.hang(c));
        }
        Check.not("another", w.house.hang(0));
        Check.is("1 is there still", w.house.isOpen(1));
        Check.is("hang", w.house.hang(1));
        Check.not("not there any more", w.house.isOpen(1));
        Check.not("again", w.house.hang(1));
        w.house.connect(2);
        w.come(2, new byte[] {1, 1, 1, 1});
        Check.not("one that was CUT", w.house.hang(2));
    }

    /** "how many MESSAGES were done by it (what the connection was CUT at, too)". */
    private static void comeCountsMessages() {
        Peer p = Peer.bare(new Wire(), 0);
        byte[] one = Wire.framed(Req.message(p.mine(Peer.echo())));
        byte[] two = Wire.framed(Req.message(p.mine(Peer.echo()), p.mine(Peer.echo())));
        byte[] cancel = Wire.framed(Req.message(Peer.cancel()));
        byte[] bad = Wire.framed(Req.message(p.mine(Peer.echo()).flags(1)));
        byte[] all = new byte[one.length + two.length + cancel.length + bad.length + one.length];
        int at = 0;
        for (byte[] m : new byte[][] {one, two, cancel, bad, one}) {
            System.arraycopy(m, 0, all, at, m.length);
            at += m.length;
        }
        Check.eq("three, and the one it was CUT at", p.wire.come(0, all), 4);
        Check.not("cut", p.wire.house.isOpen(0));
        Check.eq("no bytes", p.wire.come(0, new byte[0]), -1);
        Peer q = Peer.bare(new Wire(), 0);
        Check.eq("no bytes of one that is there", q.wire.come(0, new byte[0]), 0);
    }

    private static void comeInPieces() {
        Peer p = Peer.bare(new Wire(), 0);
        byte[] m = Wire.framed(Req.message(p.mine(Peer.echo())));
        for (int cut : new int[] {1, 2, 3, 4, 5, 40, m.length - 1}) {
            Peer q = Peer.bare(new Wire(), 0);
            Check.eq("the first " + cut, q.wire.come(0, java.util.Arrays.copyOf(m, cut)), 0);
            Check.eq("nothing yet", q.wire.house.outs(0), 0);
            Check.eq("the rest", q.wire.come(0, java.util.Arrays.copyOfRange(m, cut, m.length)), 1);
            Check.eq("answered", q.wire.house.outs(0), 72);
        }
        // pieces of two connections do not mix
        Wire w = new Wire();
        Peer a = Peer.bare(w, 0);
        Peer b = Peer.bare(w, 1);
        byte[] x = Wire.framed(Req.message(a.mine(Peer.echo())));
        byte[] y = Wire.framed(Req.message(b.mine(Peer.echo())));
        w.come(0, java.util.Arrays.copyOf(x, 30));
        w.come(1, java.util.Arrays.copyOf(y, 50));
        Check.eq("the first", w.come(0, java.util.Arrays.copyOfRange(x, 30, x.length)), 1);
        Check.eq("the second", w.come(1, java.util.Arrays.copyOfRange(y, 50, y.length)), 1);
    }

    /** "NOW grows by n (0 .. 1000000): .. False: n is not such." */
    private static void tickOf0To1000000() {
        ShareHouse h = new ShareHouse();
        for (int n : new int[] {-1, 1000001, Integer.MIN_VALUE, Integer.MAX_VALUE}) {
            Check.not("tick " + n, h.tick(n));
            Check.eq("NOW stays", h.told(0), 0);
        }
        Check.is("0", h.tick(0));
        Check.eq("NOW 0", h.told(0), 0);
        Check.is("1", h.tick(1));
        Check.is("1000000", h.tick(1000000));
        Check.is("999999", h.tick(999999));
        Check.eq("NOW", h.told(0), 2000000);
    }

    /** "NOW's lowest 32 bits": 511 calls bring it no further than 511000000. */
    private static void nowOf32Bits() {
        ShareHouse h = new ShareHouse();
        for (int i = 0; i < 511; i++) {
            h.tick(1000000);
        }
        Check.eq("NOW", h.told(0), 511000000);
    }

    private static void outsAndDrop() {
        Peer p = Peer.bare(new Wire(), 0);
        p.wire.send(0, p.mine(Peer.echo()));
        p.wire.send(0, p.mine(Peer.echo()));
        Check.eq("outs", p.wire.house.outs(0), 144);
        Check.eq("of another", p.wire.house.outs(1), 0);
        Check.eq("drop of another", p.wire.house.drop(1), 0);
        Check.eq("outs still", p.wire.house.outs(0), 144);
        Check.eq("drop", p.wire.house.drop(0), 144);
        Check.eq("empty", p.wire.house.outs(0), 0);
        Check.eq("drop again", p.wire.house.drop(0), 0);
        p.wire.send(0, p.mine(Peer.echo()));
        p.wire.house.hang(0);
        Check.eq("not there any more", p.wire.house.outs(0), 72);
        Check.eq("its last byte", p.wire.house.out(0, 71), 0);
        Check.eq("drop of what is not there", p.wire.house.drop(0), 72);
    }

    /** "Byte i of it (0 .. 255). NONE: none such." */
    private static void outOfPlace() {
        Peer p = Peer.bare(new Wire(), 0);
        p.wire.send(0, p.mine(Peer.echo()));
        for (int i : new int[] {-1, 72, 73, 16000, Integer.MIN_VALUE, Integer.MAX_VALUE}) {
            Check.eq("byte " + i, p.wire.house.out(0, i), -1);
        }
        Check.eq("byte 0", p.wire.house.out(0, 0), 0);
        Check.eq("byte 3", p.wire.house.out(0, 3), 68);
        Check.eq("byte 4 has no sign", p.wire.house.out(0, 4), 254);
        Check.eq("byte 71", p.wire.house.out(0, 71), 0);
        for (int c : ODD) {
            Check.eq("outs " + c, p.wire.house.outs(c), -1);
            Check.eq("out " + c, p.wire.house.out(c, 0), -1);
            Check.eq("drop " + c, p.wire.house.drop(c), -1);
            Check.not("isOpen " + c, p.wire.house.isOpen(c));
        }
    }

    /** "NONE: another number." */
    private static void toldOfOthers() {
        ShareHouse h = new ShareHouse();
        for (int what : new int[] {-1, 9, 10, 256, Integer.MIN_VALUE, Integer.MAX_VALUE}) {
            Check.eq("told " + what, h.told(what), -1);
        }
    }

    /** "0 NOW .., 1 RECORDS that WAIT, 2 nodes, 3 opens, 4 locks, 5 REQUESTS that WAIT, 6 sessions, 7 trees, 8 ..". */
    private static void toldCounts() {
        Wire w = new Wire();
        w.share(0, "DATA");
        Peer p = Peer.on(w, 0);
        p.ask(Peer.tree("DATA"));
        p.ask(Peer.tree("DATA"));
        p.ask(Peer.setUp("v", 0));
        w.house.tick(9);
        p.open("a");
        p.open("a");
        p.open("b");
        p.ask(Peer.write(1, 0, "x"));
        p.ask(Peer.flush(1));
        p.open("c");
        p.ask(Peer.lock(1, 0, 1, 2));
        p.ask(Peer.lock(1, 5, 1, 2));
        p.ask(Peer.lock(2, 5, 1, 2));
        int[] due = {9, 1, 4, 4, 2, 1, 2, 3, 3};
        for (int what = 0; what < due.length; what++) {
            Check.eq("told " + what, w.house.told(what), due[what]);
        }
    }
}
