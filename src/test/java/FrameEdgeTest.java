import java.util.List;

/** Part 2, "MESSAGES": what comes on a connection, and each thing at which it is CUT. */
public final class FrameEdgeTest {
    private FrameEdgeTest() {
    }

    public static void main(String[] args) {
        connectionsAre0To5();
        lengthsAre64To4000();
        aMessageOf64();
        aMessageOf4000();
        aByteThatIsNot0();
        onlyWhenAllFourAreThere();
        whatComesBehindACut();
        eachPlaceOfTheHeader();
        flags();
        nextIsDividedBy8();
        nextIsAtLeast64();
        nextLeavesAtLeast64();
        theFirstIsNotRelated();
        commandsBeforeNegotiate();
        negotiateBehindIt();
        eachWhenItIsMet();
        aCutEndsSessions();
        whatWasAnsweredStays();
        Check.end("FrameEdgeTest");
    }

    /** "CONNECTIONS 0 .. 5." */
    private static void connectionsAre0To5() {
        Wire w = new Wire();
        int[] none = {-1, 6, 7, Integer.MIN_VALUE, Integer.MAX_VALUE};
        for (int c : none) {
            Check.not("connect " + c, w.house.connect(c));
            Check.not("isOpen " + c, w.house.isOpen(c));
            Check.not("hang " + c, w.house.hang(c));
            Check.eq("come " + c, w.come(c, new byte[4]), -1);
            Check.eq("outs " + c, w.house.outs(c), -1);
            Check.eq("out " + c, w.house.out(c, 0), -1);
            Check.eq("drop " + c, w.house.drop(c), -1);
        }
        for (int c = 0; c < 6; c++) {
            Check.is("connect " + c, w.house.connect(c));
            Check.is("isOpen " + c, w.house.isOpen(c));
        }
    }

    private static boolean cutBy(int... bytes) {
        Wire w = new Wire();
        w.house.connect(0);
        byte[] b = new byte[bytes.length];
        for (int i = 0; i < b.length; i++) {
            b[i] = (byte) bytes[i];
        }
        int done = w.come(0, b);
        boolean open = w.house.isOpen(0);
        Check.eq("what it is CUT at counts", done, open ? 0 : 1);
        return !open;
    }

    /** "a length of 3 bytes (highest first), 64 .. 4000". */
    private static void lengthsAre64To4000() {
        Check.is("0", cutBy(0, 0, 0, 0));
        Check.is("63", cutBy(0, 0, 0, 63));
        Check.not("64", cutBy(0, 0, 0, 64));
        Check.not("255", cutBy(0, 0, 0, 255));
        Check.not("256", cutBy(0, 0, 1, 0));
        Check.not("4000", cutBy(0, 0, 15, 160));
        Check.is("4001", cutBy(0, 0, 15, 161));
        Check.is("4096", cutBy(0, 0, 16, 0));
        Check.is("65600", cutBy(0, 1, 0, 64));
        Check.is("the lowest first", cutBy(0, 64, 0, 0));
        Check.is("all", cutBy(0, 255, 255, 255));
    }

    private static void aMessageOf64() {
        Peer p = Peer.bare(new Wire(), 0);
        Answer a = p.ask(new Req(13));
        Check.eq("a HEADER alone has no body", a.status(), Status.INVALID_PARAMETER);
        Check.is("and does not cut", p.wire.house.isOpen(0));
    }

    private static void aMessageOf4000() {
        Peer p = Peer.bare(new Wire(), 0);
        Check.eq("ECHO with much behind it", p.status(Peer.echo().length(4000)), Status.OK);
        Check.eq("one more cuts", p.wire.send(0, p.mine(Peer.echo().length(4001))), 1);
        Check.not("it is cut", p.wire.house.isOpen(0));
    }

    /** "a byte that is not 0". */
    private static void aByteThatIsNot0() {
        int[] bytes = {1, 2, 64, 128, 255};
        for (int b : bytes) {
            Check.is("first byte " + b, cutBy(b, 0, 0, 64));
        }
    }

    /** "(when all four are there)". */
    private static void onlyWhenAllFourAreThere() {
        Check.not("one", cutBy(1));
        Check.not("two", cutBy(1, 255));
        Check.not("three", cutBy(1, 255, 255));
        Check.is("four", cutBy(1, 255, 255, 255));
        Wire w = new Wire();
        w.house.connect(0);
        for (int i = 0; i < 3; i++) {
            Check.eq("not yet", w.come(0, new byte[] {9}), 0);
        }
        Check.eq("the fourth, in another call", w.come(0, new byte[] {0}), 1);
        Check.not("cuts", w.house.isOpen(0));
    }

    /** What comes behind a cut in the same call is not looked at. */
    private static void whatComesBehindACut() {
        Wire w = new Wire();
        w.house.connect(0);
        byte[] good = Wire.framed(Req.message(Peer.negotiate().id(0)));
        byte[] all = new byte[2 * good.length + 4];
        all[0] = 1;
        System.arraycopy(good, 0, all, 4, good.length);
        System.arraycopy(good, 0, all, 4 + good.length, good.length);
        Check.eq("one alone is done", w.come(0, all), 1);
        Check.eq("and nothing answered", w.house.outs(0), 0);
        Check.eq("come to it", w.come(0, good), -1);
        Check.is("connect", w.house.connect(0));
        Check.eq("it begins anew", w.come(0, good), 1);
        Check.is("and stands", w.house.isOpen(0));
        // what came of a message that is not whole goes with the connection
        w.come(0, new byte[] {0, 0, 0});
        w.house.hang(0);
        w.house.connect(0);
        Check.eq("nothing is left of it", w.come(0, good), 1);
        Check.is("it stands", w.house.isOpen(0));
    }

    /** Whether an ECHO changed so cuts; it counts, and is not answered then. */
    private static boolean cuts(Req echo) {
        Peer p = Peer.bare(new Wire(), 0);
        Check.eq("done", p.wire.send(0, p.mine(echo)), 1);
        boolean open = p.wire.house.isOpen(0);
        Check.eq("answered", p.wire.house.outs(0) == 0 ? 0 : 1, open ? 1 : 0);
        return !open;
    }

    /** "a HEADER .. whose 0, 4 are others". */
    private static void eachPlaceOfTheHeader() {
        int[] due = {254, 83, 77, 66, 64, 0};
        for (int at = 0; at < due.length; at++) {
            Check.is("place " + at + " higher", cuts(Peer.echo().put(at, 1, due[at] + 1)));
            Check.is("place " + at + " lower", cuts(Peer.echo().put(at, 1, due[at] - 1)));
        }
        Check.not("CHARGE is any", cuts(Peer.echo().put(6, 2, 0xFFFF)));
        Check.not("STATUS is any", cuts(Peer.echo().put(8, 4, 0xFFFFFFFFL)));
        Check.not("PROCESS is any", cuts(Peer.echo().put(32, 4, 0xFFFFFFFFL)));
        Check.not("the last 16 are any", cuts(Peer.echo().put(48, 8, -1L).put(56, 8, -1L)));
    }

    /** "with FLAGS 1". */
    private static void flags() {
        Check.is("an answer", cuts(Peer.echo().flags(1)));
        Check.is("with others", cuts(Peer.echo().flags(0xFFFFFFFBL)));
        Check.not("ASYNC", cuts(Peer.echo().flags(2)));
        Check.not("all others but RELATED", cuts(Peer.echo().flags(0xFFFFFFFAL)));
    }

    /** The first of three ECHOES, each 72 bytes long, tells another NEXT; whether that cuts. */
    private static boolean cutsByNext(long next) {
        Peer p = Peer.bare(new Wire(), 0);
        byte[] m = Req.message(p.mine(Peer.echo()), p.mine(Peer.echo()), p.mine(Peer.echo()));
        for (int i = 0; i < 4; i++) {
            m[20 + i] = (byte) (next >> (8 * i));
        }
        Check.eq("done", p.wire.come(0, Wire.framed(m)), 1);
        boolean open = p.wire.house.isOpen(0);
        Check.eq("answered", p.wire.house.outs(0) == 0 ? 0 : 1, open ? 1 : 0);
        return !open;
    }

    /** "8 divides it". The message is 212 bytes long. */
    private static void nextIsDividedBy8() {
        for (int next = 65; next < 72; next++) {
            Check.is("NEXT " + next, cutsByNext(next));
        }
        Check.not("NEXT 72", cutsByNext(72));
        Check.is("NEXT 73", cutsByNext(73));
        Check.is("NEXT 76", cutsByNext(76));
    }

    /** "at least 64; 0: none". */
    private static void nextIsAtLeast64() {
        for (int next = 8; next < 64; next += 8) {
            Check.is("NEXT " + next, cutsByNext(next));
        }
        Check.not("NEXT 0", cutsByNext(0));
        // 64: the next one begins in what would be the body of the first
        Peer p = Peer.bare(new Wire(), 0);
        List<Answer> all = p.askAll(new Req(13), Peer.echo());
        Check.eq("two answers", all.size(), 2);
        Check.eq("no body", all.get(0).status(), Status.INVALID_PARAMETER);
        Check.eq("the next", all.get(1).status(), Status.OK);
    }

    /** "with a NEXT that is not such or leaves less than 64 bytes behind". */
    private static void nextLeavesAtLeast64() {
        Check.not("144 leaves 68", cutsByNext(144));
        Check.is("152 leaves 60", cutsByNext(152));
        Check.is("208 leaves 4", cutsByNext(208));
        Check.is("216 is behind the end", cutsByNext(216));
        Check.is("without sign", cutsByNext(0x80000000L));
        Check.is("the highest", cutsByNext(0xFFFFFFF8L));
        Check.is("that wraps around", cutsByNext(0xFFFFFFF8L - 64));
        Peer p = Peer.bare(new Wire(), 0);
        List<Answer> all = p.askAll(Peer.echo(), new Req(13));
        Check.eq("just 64 are left", all.size(), 2);
        Check.eq("a HEADER alone", all.get(1).status(), Status.INVALID_PARAMETER);
        // 63 bytes behind it: 8 divides where it begins, so the message is one byte shorter
        Peer q = Peer.bare(new Wire(), 0);
        byte[] m = Req.message(q.mine(Peer.echo()), q.mine(new Req(13)));
        Check.eq("63 are left", q.wire.come(0, Wire.framed(java.util.Arrays.copyOf(m, m.length - 1))), 1);
        Check.not("that cuts", q.wire.house.isOpen(0));
    }

    /** "the first of a message being RELATED". */
    private static void theFirstIsNotRelated() {
        Check.is("RELATED", cuts(Peer.echo().related()));
        Peer p = Peer.bare(new Wire(), 0);
        Check.eq("CANCEL, too", p.wire.send(0, Peer.cancel().related()), 1);
        Check.not("cuts", p.wire.house.isOpen(0));
        Peer q = Peer.bare(new Wire(), 0);
        Check.eq("the second may be", q.askAll(Peer.echo(), Peer.echo().related()).size(), 2);
        Check.is("it stands", q.wire.house.isOpen(0));
    }

    /** "any COMMAND before a NEGOTIATE that was answered with OK". */
    private static void commandsBeforeNegotiate() {
        for (int command = 1; command <= 20; command++) {
            Wire w = new Wire();
            w.house.connect(0);
            Check.eq("done " + command, w.send(0, new Req(command).length(120).id(0)), 1);
            Check.not("cut by " + command, w.house.isOpen(0));
            Check.eq("not answered " + command, w.house.outs(0), 0);
        }
        Req[] refused = {Peer.negotiate().put(66, 2, 0), Peer.negotiate().put(100, 2, 0x0311)};
        for (Req r : refused) {
            Wire w = new Wire();
            w.house.connect(0);
            w.send(0, r.id(0));
            Check.is("a NEGOTIATE that is refused does not cut", w.house.isOpen(0));
            w.house.drop(0);
            Check.eq("behind it", w.send(0, Peer.echo().id(1)), 1);
            Check.not("any other does", w.house.isOpen(0));
            Check.eq("not answered", w.house.outs(0), 0);
        }
        Wire w = new Wire();
        w.house.connect(0);
        w.send(0, Peer.negotiate().put(66, 2, 0).id(0).credits(1));
        Check.eq("NEGOTIATE again", w.send(0, Peer.negotiate().id(1)), 1);
        Check.is("stands", w.house.isOpen(0));
        Check.eq("ECHO then", w.send(0, Peer.echo().id(2)), 1);
        Check.is("stands, too", w.house.isOpen(0));
    }

    /** "a NEGOTIATE behind that". */
    private static void negotiateBehindIt() {
        Peer p = Peer.bare(new Wire(), 0);
        Check.eq("a second one", p.wire.send(0, p.mine(Peer.negotiate())), 1);
        Check.not("cuts", p.wire.house.isOpen(0));
        Wire w = new Wire();
        w.house.connect(0);
        Check.eq("in one message", w.send(0, Peer.negotiate().id(0), Peer.negotiate().id(1)), 1);
        Check.not("cuts, too", w.house.isOpen(0));
        Check.eq("and the first is not answered", w.house.outs(0), 0);
        // each connection for itself
        Wire v = new Wire();
        Peer.bare(v, 0);
        v.house.connect(1);
        Check.eq("another connection", v.send(1, Peer.echo().id(0)), 1);
        Check.not("has not negotiated", v.house.isOpen(1));
        Check.is("the first stands", v.house.isOpen(0));
    }

    /** "each when it is met (what stands before it in the message was done, but is not answered)". */
    private static void eachWhenItIsMet() {
        Req[] wrong = {Peer.echo().put(0, 1, 0), Peer.echo().put(4, 1, 0), Peer.echo().flags(1), Peer.echo().put(20, 4, 9),
            Peer.negotiate(), Peer.echo()};
        for (int i = 0; i < wrong.length; i++) {
            Peer p = Peer.fresh();
            Peer other = Peer.on(p.wire, 1);
            Req make = p.mine(Peer.create("made", Peer.ALL, 7, 3, 0, 0));
            Req echo = p.mine(Peer.echo());
            p.mine(wrong[i]);
            if (i == wrong.length - 1) {
                wrong[i].id(make.n(24, 8));
            }
            Check.eq("done", p.wire.send(0, make, echo, wrong[i]), 1);
            Check.not("cut", p.wire.house.isOpen(0));
            Check.eq("not answered", p.wire.house.outs(0), 0);
            Check.eq("but done", other.status(Peer.create("made", Peer.ALL, 7, 1, 0, 0)), Status.OK);
        }
        // one whose own NEXT is wrong is not done: 124 is not divided by 8, 120 and 128 leave less than 64
        for (int next : new int[] {124, 120, 128, 184, 192}) {
            Peer p = Peer.fresh();
            Req make = p.mine(Peer.shortCreate("made", Peer.ALL, 7, 3, 0, 0)).length(next == 124 ? 240 : 180).put(20, 4, next);
            Check.eq("done " + next, p.wire.send(0, make), 1);
            Check.not("cut " + next, p.wire.house.isOpen(0));
            Check.eq("nothing made " + next, p.wire.house.told(2), 1);
        }
        // what would stand behind it is not done
        Peer p = Peer.fresh();
        Req bad = p.mine(Peer.echo()).flags(1);
        Req make = p.mine(Peer.create("made", Peer.ALL, 7, 3, 0, 0));
        p.wire.send(0, bad, make);
        Check.eq("nothing made", p.wire.house.told(2), 1);
    }

    /** "A connection is CUT (closed by the server: its sessions end; ..)". */
    private static void aCutEndsSessions() {
        Wire w = new Wire();
        w.share(0, "DATA");
        Peer p = Peer.on(w, 0);
        Peer q = Peer.on(w, 1);
        p.open("f");
        q.open("f");
        p.setUp("second");
        Check.eq("records wait", w.house.told(1), 1);
        w.come(0, new byte[] {1, 0, 0, 0});
        Check.eq("sessions", w.house.told(6), 1);
        Check.eq("trees", w.house.told(7), 1);
        Check.eq("opens", w.house.told(3), 1);
        Check.eq("records came by closing", w.house.told(1), 0);
        Check.is("the other stands", w.house.isOpen(1));
        Check.eq("and its open", q.status(Peer.read(2, 0, 0)), Status.OK);
    }

    /** "what was answered stays". */
    private static void whatWasAnsweredStays() {
        Peer p = Peer.bare(new Wire(), 3);
        byte[] good = Wire.framed(Req.message(p.mine(Peer.echo())));
        byte[] all = java.util.Arrays.copyOf(good, good.length + 4);
        all[good.length] = 1;
        Check.eq("both count", p.wire.come(3, all), 2);
        Check.not("cut", p.wire.house.isOpen(3));
        Check.eq("the answer stays", p.wire.house.outs(3), 72);
        Check.eq("its first byte", p.wire.house.out(3, 4), 254);
        Check.eq("drop", p.wire.house.drop(3), 72);
        Check.eq("it is empty", p.wire.house.outs(3), 0);
    }
}
