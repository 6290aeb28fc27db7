import java.util.List;

/** Promise 7 and 11 to 13, part 2: messages, what cuts a connection, IDS, answers, RELATED. */
public final class MessageTest {
    private MessageTest() {
    }

    public static void main(String[] args) {
        pieces();
        wrongFrames();
        wrongHeaders();
        links();
        cutInTheMiddle();
        ids();
        answersOfOneMessage();
        relatedOnes();
        relatedFiles();
        orderOfLooking();
        cancelsAlone();
        fillIsZero();
        wrongFramesEndSessions();
        whatHasNoRoom();
        Check.end("MessageTest");
    }

    private static void pieces() {
        Peer p = Peer.bare(new Wire(), 2);
        byte[] echo = Wire.framed(Req.message(p.mine(Peer.echo())));
        byte[] next = Wire.framed(Req.message(p.mine(Peer.echo())));
        for (int i = 0; i + 1 < echo.length; i++) {
            Check.eq("a piece", p.wire.come(2, new byte[] {echo[i]}), 0);
        }
        Check.eq("nothing answered yet", p.wire.house.outs(2), 0);
        byte[] rest = new byte[1 + next.length + 3];
        rest[0] = echo[echo.length - 1];
        System.arraycopy(next, 0, rest, 1, next.length);
        rest[1 + next.length] = 7;
        Check.eq("two messages at once", p.wire.come(2, rest), 2);
        Check.is("three wrong bytes do not cut", p.wire.house.isOpen(2));
        Check.eq("two answers", p.wire.house.outs(2), 2 * 72);
        Check.eq("the tape is used up", p.wire.house.feed(0, 0, 0, 0, 0), 20);
        p.wire.house.cut(0);
        Check.eq("the fourth cuts", p.wire.come(2, new byte[1]), 1);
        Check.not("it is cut", p.wire.house.isOpen(2));
        Check.eq("answers stay", p.wire.house.outs(2), 2 * 72);
        Check.eq("out of one that is gone", p.wire.house.out(2, 4), 254);
        Check.eq("come to one that is gone", p.wire.come(2, new byte[4]), -1);
        Check.is("connect again", p.wire.house.connect(2));
        Check.eq("connect empties", p.wire.house.outs(2), 0);
    }

    private static void wrongFrames() {
        int[][] frames = {{1, 0, 0, 64}, {0, 0, 0, 63}, {0, 0, 0, 0}, {0, 0, 15, 161}, {0, 1, 0, 64}, {0, 0, 16, 0}};
        for (int[] f : frames) {
            Wire w = new Wire();
            w.house.connect(0);
            byte[] b = {(byte) f[0], (byte) f[1], (byte) f[2], (byte) f[3], 0, 0, 0};
            Check.eq("a wrong frame counts", w.come(0, b), 1);
            Check.not("a wrong frame cuts", w.house.isOpen(0));
        }
        Wire w = new Wire();
        w.house.connect(0);
        Check.eq("4000 is a length", w.come(0, new byte[] {0, 0, 15, (byte) 160, 0}), 0);
        Check.is("and does not cut", w.house.isOpen(0));
    }

    private static void cuts(String what, Req... requests) {
        Peer p = Peer.bare(new Wire(), 1);
        for (Req r : requests) {
            r.id(r.n(24, 8) == 0 ? p.nextId++ : r.n(24, 8));
        }
        Check.eq(what + " counts", p.wire.send(1, requests), 1);
        Check.not(what + " cuts", p.wire.house.isOpen(1));
        Check.eq(what + " is not answered", p.wire.house.outs(1), 0);
    }

    private static void wrongHeaders() {
        cuts("place 0", Peer.echo().put(0, 1, 255));
        cuts("place 3", Peer.echo().put(3, 1, 65));
        cuts("place 4", Peer.echo().put(4, 2, 65));
        cuts("an answer", Peer.echo().flags(1));
        cuts("the first one RELATED", Peer.echo().related());
        cuts("a taken ID", Peer.echo().id(-1L));
        cuts("an ID not yet free", Peer.echo().id(9));
        cuts("a second NEGOTIATE", Peer.negotiate());
        Wire w = new Wire();
        w.house.connect(0);
        Check.eq("ECHO ahead of NEGOTIATE", w.send(0, Peer.echo()), 1);
        Check.not("cuts", w.house.isOpen(0));
        w.house.connect(0);
        Check.eq("CANCEL ahead of NEGOTIATE", w.send(0, Peer.cancel()), 1);
        Check.not("cuts too", w.house.isOpen(0));
        w.house.connect(0);
        Check.eq("NEGOTIATE refused", w.send(0, Peer.negotiate().put(100, 2, 0x0210)), 1);
        Check.eq("status", w.answers(0).get(0).status(), Status.NOT_SUPPORTED);
        Check.eq("ECHO behind a refused NEGOTIATE", w.send(0, Peer.echo().id(1)), 1);
        Check.not("cuts as well", w.house.isOpen(0));
    }

    private static void links() {
        Peer p = Peer.bare(new Wire(), 1);
        byte[] both = Req.message(p.mine(Peer.echo()), p.mine(Peer.echo()));
        int[] wrong = {8, 56, 4, 1, 68, 76, 80, 136, 0x7ffffff8, 0xfffffff8, 0x80000000};
        for (int next : wrong) {
            Peer q = Peer.bare(new Wire(), 1);
            byte[] m = both.clone();
            for (int i = 0; i < 4; i++) {
                m[20 + i] = (byte) (next >> (8 * i));
            }
            Check.eq("NEXT " + next, q.wire.come(1, Wire.framed(m)), 1);
            Check.not("cuts " + next, q.wire.house.isOpen(1));
        }
        Check.eq("NEXT 72", p.wire.come(1, Wire.framed(both)), 1);
        Check.is("stands", p.wire.house.isOpen(1));
        // 64 bytes behind are enough for a header, which then has no body
        Peer q = Peer.bare(new Wire(), 1);
        List<Answer> all = q.askAll(Peer.echo(), new Req(13));
        Check.eq("no body", all.get(1).status(), Status.INVALID_PARAMETER);
    }

    private static void cutInTheMiddle() {
        Peer p = Peer.fresh();
        Req make = p.mine(Peer.create("made", Peer.ALL, 7, 3, 0, 0));
        Req wrong = p.mine(Peer.echo()).flags(1);
        Check.eq("a message that is cut", p.wire.send(0, make, wrong), 1);
        Check.eq("what stands before was done", p.wire.house.told(2), 2);
        Check.eq("but is not answered", p.wire.house.outs(0), 0);
        Check.eq("and its session ended", p.wire.house.told(6), 0);
        Check.eq("with its tree", p.wire.house.told(7), 0);
        Check.eq("and open", p.wire.house.told(3), 0);
        Check.eq("which was closed: the record came", p.wire.house.told(8), 2);
    }

    private static void ids() {
        Wire w = new Wire();
        w.house.connect(0);
        Peer p = new Peer(w, 0);
        Check.eq("0 asked is 1 granted", p.ask(Peer.negotiate().credits(0)).credits(), 1);
        Check.eq("5 granted", p.ask(Peer.echo().credits(5)).credits(), 5);
        Check.eq("11 of 20", p.ask(Peer.echo().credits(20)).credits(), 12);
        Check.eq("one for one", p.ask(Peer.echo().credits(65535)).credits(), 1);
        Check.eq("an error grants, too", p.ask(Peer.logOff().credits(3)).credits(), 1);
        // FREE are 16 now: 5 .. 20; one is used out of order
        w.send(0, Peer.echo().id(20));
        Check.eq("out of order", w.answers(0).get(0).credits(), 1);
        w.send(0, Peer.echo().id(21));
        Check.eq("behind the highest", w.answers(0).get(0).credits(), 1);
        w.send(0, Peer.echo().id(5));
        Check.eq("an elder one", w.answers(0).get(0).credits(), 1);
        Check.eq("CANCEL needs none", w.send(0, Peer.cancel().id(5)), 1);
        Check.is("and does not cut", w.house.isOpen(0));
        w.send(0, Peer.echo().id(20));
        Check.not("taken twice", w.house.isOpen(0));
    }

    private static void answersOfOneMessage() {
        Peer p = Peer.fresh();
        Req echo = Peer.echo().put(6, 2, 77).put(32, 4, 0x12345678).put(48, 8, -1L);
        List<Answer> all = p.askAll(echo, Peer.create("x", Peer.ALL, 7, 3, 0, 0), Peer.logOff().put(64, 2, 5),
                Peer.echo());
        Check.eq("four answers", all.size(), 4);
        Answer first = all.get(0);
        Check.eq("CHARGE", first.n(6, 2), 77);
        Check.eq("PROCESS", first.n(32, 4), 0x12345678);
        Check.eq("TREE", first.tree(), p.tree);
        Check.eq("SESSION", first.session(), p.session);
        Check.eq("FLAGS", first.flags(), 1);
        Check.eq("16 bytes", first.n(48, 8) | first.n(56, 8), 0);
        Check.eq("filled", first.length(), 72);
        Check.eq("no fill needed", all.get(1).length(), 152);
        Check.eq("an error, filled", all.get(2).length(), 80);
        Check.eq("status", all.get(2).status(), Status.INVALID_PARAMETER);
        Check.eq("error body", all.get(2).n(64, 8), 9);
        Check.eq("and its ninth byte", all.get(2).n(72, 1), 0);
        Check.eq("the last one is not filled", all.get(3).length(), 68);
        for (int i = 0; i < 4; i++) {
            Check.eq("ID", all.get(i).id(), p.nextId - 4 + i);
        }
        Answer alone = p.ask(Peer.logOff().put(64, 2, 5));
        Check.eq("an error alone", alone.length(), 73);
    }

    private static void relatedOnes() {
        Wire w = new Wire();
        w.share(0, "DATA");
        Peer p = Peer.bare(w, 0);
        List<Answer> all = p.askAll(Peer.setUp("ann", 0), Peer.tree("data").related(),
                Peer.create("f", Peer.ALL, 7, 3, 0, 0).related(), Peer.write(Peer.BEFORE, 0, "hello").related(),
                Peer.read(Peer.BEFORE, 1, 3).related(), Peer.close(Peer.BEFORE).related());
        Check.eq("six answers", all.size(), 6);
        for (int i = 0; i < 6; i++) {
            Check.eq("ok " + i, all.get(i).status(), 0);
            Check.eq("session " + i, all.get(i).session(), 1);
            Check.eq("tree " + i, all.get(i).tree(), i == 0 ? 0 : 1);
            Check.eq("flags " + i, all.get(i).flags(), i == 0 ? 1 : 5);
        }
        Check.eq("read", all.get(4).n(80, 3), 'e' | 'l' << 8 | 'l' << 16);
        Check.eq("all closed", w.house.told(3), 0);
        // a SESSION_SETUP that is refused hands on what it was asked with
        p.session = 1;
        p.tree = 1;
        all = p.askAll(Peer.setUp("a b", 0), Peer.create("f", Peer.ALL, 7, 1, 0, 0).related());
        Check.eq("refused", all.get(0).status(), Status.INVALID_PARAMETER);
        Check.eq("asked", all.get(0).session(), 1);
        Check.eq("goes on", all.get(1).status(), Status.OK);
        all = p.askAll(Peer.logOff(), Peer.create("f", Peer.ALL, 7, 1, 0, 0).related());
        Check.eq("the session is gone", all.get(1).status(), Status.SESSION_GONE);
    }

    private static void relatedFiles() {
        Peer p = Peer.fresh();
        long f = p.open("f");
        List<Answer> all = p.askAll(Peer.create("no", Peer.ALL, 7, 1, 0, 0), Peer.read(Peer.BEFORE, 0, 1).related());
        Check.eq("not made", all.get(0).status(), Status.NAME_NOT_FOUND);
        Check.eq("none before", all.get(1).status(), Status.INVALID_PARAMETER);
        all = p.askAll(Peer.read(f, 0, 1), Peer.write(Peer.BEFORE, 0, "x").related());
        Check.eq("refused", all.get(0).status(), Status.END_OF_FILE);
        Check.eq("but its FILE was looked at", all.get(1).status(), Status.OK);
        all = p.askAll(Peer.read(f + 50, 0, 1), Peer.write(Peer.BEFORE, 0, "x").related());
        Check.eq("no such FILE", all.get(0).status(), Status.FILE_CLOSED);
        Check.eq("nor of the next", all.get(1).status(), Status.FILE_CLOSED);
        all = p.askAll(Peer.read(f, 0, 1).put(64, 2, 48), Peer.write(Peer.BEFORE, 0, "x").related());
        Check.eq("a body that is none", all.get(0).status(), Status.INVALID_PARAMETER);
        Check.eq("its FILE was not looked at", all.get(1).status(), Status.INVALID_PARAMETER);
        all = p.askAll(Peer.read(f, 0, 1), Peer.echo().related(), Peer.write(Peer.BEFORE, 0, "x").related());
        Check.eq("ECHO has no FILE", all.get(2).status(), Status.INVALID_PARAMETER);
        Check.eq("255s of one that is not RELATED", p.status(Peer.read(Peer.BEFORE, 0, 1)), Status.FILE_CLOSED);
        all = p.askAll(Peer.close(f), Peer.flush(Peer.BEFORE).related());
        Check.eq("closed before", all.get(1).status(), Status.FILE_CLOSED);
    }

    private static void orderOfLooking() {
        Peer p = Peer.fresh();
        long f = p.open("f");
        Check.eq("SESSION first", p.status2(Peer.read(f, 0, 1).put(64, 2, 1), 99, 99), Status.SESSION_GONE);
        Check.eq("then TREE", p.status2(Peer.read(f, 0, 1).put(64, 2, 1), p.session, 99), Status.TREE_GONE);
        Check.eq("then the body", p.status(Peer.read(f + 1, 0, 1).put(64, 2, 1)), Status.INVALID_PARAMETER);
        Check.eq("how long it is", p.status(Peer.read(f + 1, 0, 1).length(111)), Status.INVALID_PARAMETER);
        Check.eq("then FILE", p.status(Peer.read(f + 1, 0, 2000)), Status.FILE_CLOSED);
        Check.eq("both numbers of it", p.status(Peer.read(f, 0, 1).put(88, 8, f + 1)), Status.FILE_CLOSED);
        Check.eq("then the rest", p.status(Peer.read(f, 0, 2000)), Status.INVALID_PARAMETER);
        int[] none = {11, 15, 19, 20, 255, 65535};
        for (int command : none) {
            Check.eq("command " + command, p.status(new Req(command)), Status.NOT_SUPPORTED);
            Check.eq("behind TREE", p.status2(new Req(command), p.session, 99), Status.TREE_GONE);
            Check.eq("behind SESSION", p.status2(new Req(command), 99, 99), Status.SESSION_GONE);
        }
        Check.eq("where: in the header", p.status(Peer.write(f, 0, "abc").put(66, 2, 63)), Status.INVALID_PARAMETER);
        Check.eq("where: in the body", p.status(Peer.write(f, 0, "abc").put(66, 2, 64)), Status.OK);
        Check.eq("where: behind", p.status(Peer.write(f, 0, "abc").put(66, 2, 113)), Status.INVALID_PARAMETER);
        Check.eq("no bytes may be anywhere", p.status(Peer.write(f, 0, "").put(66, 2, 9999)), Status.OK);
        // a file of another tree of the same session
        long other = p.tree;
        p.connectTree("data");
        Check.eq("another tree", p.status(Peer.read(f, 0, 1)), Status.FILE_CLOSED);
        p.tree = other;
        Check.eq("its own tree", p.status(Peer.read(f, 0, 1)), Status.OK);
        // what stands in the request behind it is not its own
        List<Answer> all = p.askAll(Peer.write(f, 0, "abc").put(68, 4, 20), Peer.echo());
        Check.eq("bytes of the next one", all.get(0).status(), Status.INVALID_PARAMETER);
    }

    private static void cancelsAlone() {
        Peer p = Peer.fresh();
        Check.eq("a message of CANCELS", p.wire.send(0, Peer.cancel().id(-1L), Peer.cancel().id(5)), 1);
        Check.eq("has no answer", p.wire.house.outs(0), 0);
        List<Answer> all = p.askAll(Peer.echo());
        Check.eq("it goes on", all.size(), 1);
        Req cancel = Peer.cancel();
        Req echo = p.mine(Peer.echo());
        p.wire.send(0, echo, cancel);
        List<Answer> answers = p.wire.answers(0);
        Check.eq("only ECHO is answered", answers.size(), 1);
        Check.eq("not filled", answers.get(0).length(), 68);
    }

    /** What fills an answer is 0, whatever stood there in a message before. */
    private static void fillIsZero() {
        Peer p = Peer.fresh();
        long f = p.open("f");
        p.ask(Peer.write(f, 0, "~".repeat(1000)));
        p.askAll(Peer.read(f, 0, 1000), Peer.read(f, 0, 1000));
        Answer a = p.askAll(Peer.echo(), Peer.echo()).get(0);
        Check.eq("filled", a.length(), 72);
        Check.eq("with 0s", a.n(64, 8), 4);
    }

    private static void wrongFramesEndSessions() {
        Peer p = Peer.fresh();
        p.open("f");
        p.wire.come(0, new byte[] {1, 0, 0, 64});
        Check.eq("sessions", p.wire.house.told(6), 0);
        Check.eq("trees", p.wire.house.told(7), 0);
        Check.eq("opens", p.wire.house.told(3), 0);
        Check.eq("records came", p.wire.house.told(1), 0);
    }

    private static void whatHasNoRoom() {
        Peer p = Peer.fresh();
        long f = p.open("f");
        StringBuilder many = new StringBuilder();
        for (int i = 0; i < 1024; i++) {
            many.append((char) ('a' + i % 26));
        }
        p.ask(Peer.write(f, 0, many.toString()));
        for (int i = 0; i < 14; i++) {
            p.wire.send(0, p.mine(Peer.read(f, 0, 1024)));
        }
        Check.eq("14 times 1108", p.wire.house.outs(0), 14 * 1108);
        p.wire.send(0, p.mine(Peer.read(f, 0, 1024)));
        Check.eq("no room", p.wire.house.outs(0), 14 * 1108);
        p.wire.send(0, p.mine(Peer.read(f, 0, 404)));
        Check.eq("just room", p.wire.house.outs(0), 16000);
        p.wire.send(0, p.mine(Peer.echo()));
        Check.eq("none any more", p.wire.house.outs(0), 16000);
        Check.eq("the last byte", p.wire.house.out(0, 15999), many.charAt(403));
        Check.eq("none behind it", p.wire.house.out(0, 16000), -1);
        Check.eq("drop", p.wire.house.drop(0), 16000);
        Check.eq("empty", p.wire.house.outs(0), 0);
        Check.eq("it was granted all the same", p.ask(Peer.echo()).status(), Status.OK);
    }
}
