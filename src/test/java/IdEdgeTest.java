import java.util.List;

/** Part 2, "IDS": which are FREE, how many are GRANTED. */
public final class IdEdgeTest {
    private IdEdgeTest() {
    }

    public static void main(String[] args) {
        atFirst0Alone();
        takenOnce();
        cancelNeedsNone();
        atLeast1();
        atMost16();
        behindTheHighest();
        eachFirstAnswerGrants();
        laterAnswersGrantNothing();
        withinOneMessage();
        connectionsEachTheirOwn();
        Check.end("IdEdgeTest");
    }

    private static Wire connected() {
        Wire w = new Wire();
        w.house.connect(0);
        return w;
    }

    private static long credits(Wire w, Req r) {
        Check.eq("done", w.send(0, r), 1);
        List<Answer> all = w.answers(0);
        return all.isEmpty() ? -1 : all.get(0).credits();
    }

    private static boolean cut(Wire w, long id) {
        w.send(0, Peer.echo().id(id));
        w.house.drop(0);
        return !w.house.isOpen(0);
    }

    /** "at first 0 alone is FREE". */
    private static void atFirst0Alone() {
        long[] others = {1, 2, -1L, 1L << 32, 1L << 63, 256};
        for (long id : others) {
            Wire w = connected();
            Check.eq("done", w.send(0, Peer.negotiate().id(id)), 1);
            Check.not("cut by " + id, w.house.isOpen(0));
            Check.eq("not answered", w.house.outs(0), 0);
        }
        Check.eq("0", credits(connected(), Peer.negotiate().id(0).credits(1)), 1);
    }

    /** "One that a REQUEST has .. is taken." */
    private static void takenOnce() {
        Wire w = connected();
        credits(w, Peer.negotiate().id(0).credits(3));
        Check.not("2", cut(w, 2));
        Check.is("2 again", cut(w, 2));
        Wire v = connected();
        credits(v, Peer.negotiate().id(0).credits(3));
        Check.is("0 again", cut(v, 0));
        // an ID that a refused request had is taken, too
        Wire u = connected();
        credits(u, Peer.negotiate().id(0).credits(3));
        u.send(0, new Req(13).id(1));
        Check.is("taken by what is refused", cut(u, 1));
    }

    /** "(but CANCEL, which needs none and takes none)". */
    private static void cancelNeedsNone() {
        Wire w = connected();
        credits(w, Peer.negotiate().id(0).credits(1));
        long[] any = {0, 1, 99, -1L};
        for (long id : any) {
            Check.eq("CANCEL " + id, w.send(0, Peer.cancel().id(id).credits(9)), 1);
            Check.is("stands", w.house.isOpen(0));
            Check.eq("no answer", w.house.outs(0), 0);
        }
        Check.not("1 was not taken by it", cut(w, 1));
        Check.not("2 was granted by ECHO", cut(w, 2));
        Check.is("4 was not by CANCEL", cut(w, 4));
    }

    /** "as many as CREDITS asks, at least 1". */
    private static void atLeast1() {
        Wire w = connected();
        Check.eq("0 asked", credits(w, Peer.negotiate().id(0).credits(0)), 1);
        Check.eq("1 asked", credits(w, Peer.echo().id(1).credits(1)), 1);
        Check.eq("2 asked", credits(w, Peer.echo().id(2).credits(2)), 2);
        Check.not("4 is free", cut(w, 4));
        Wire v = connected();
        credits(v, Peer.negotiate().id(0).credits(0));
        Check.is("2 is not", cut(v, 2));
    }

    /** "but so that at most 16 are FREE and not less than 0". */
    private static void atMost16() {
        Wire w = connected();
        Check.eq("15 of 15", credits(w, Peer.negotiate().id(0).credits(15)), 15);
        Check.eq("2 of 3", credits(w, Peer.echo().id(1).credits(3)), 2);
        Check.eq("1 of 3", credits(w, Peer.echo().id(2).credits(3)), 1);
        Wire v = connected();
        Check.eq("16 of 16", credits(v, Peer.negotiate().id(0).credits(16)), 16);
        Check.eq("1 of 16", credits(v, Peer.echo().id(16).credits(16)), 1);
        Check.is("18 is not free", cut(v, 18));
        Wire u = connected();
        Check.eq("16 of 17", credits(u, Peer.negotiate().id(0).credits(17)), 16);
        Check.is("17 is not free", cut(u, 17));
        Wire s = connected();
        Check.eq("16 of 256", credits(s, Peer.negotiate().id(0).credits(256)), 16);
        Wire t = connected();
        Check.eq("16 of 65535", credits(t, Peer.negotiate().id(0).credits(65535)), 16);
        Check.not("16 is free", cut(t, 16));
        Check.not("17 then", cut(t, 17));
    }

    /** "so many IDS behind the highest ever FREE are FREE". */
    private static void behindTheHighest() {
        Wire w = connected();
        credits(w, Peer.negotiate().id(0).credits(4));
        Check.eq("4 first", credits(w, Peer.echo().id(4).credits(2)), 2);
        Check.eq("then 6", credits(w, Peer.echo().id(6).credits(1)), 1);
        Check.eq("1 is free still", credits(w, Peer.echo().id(1).credits(1)), 1);
        Check.not("8", cut(w, 8));
        Check.is("4 is taken for good", cut(w, 4));
    }

    /** "Each answer that is the first to a REQUEST (not to CANCEL) GRANTS". */
    private static void eachFirstAnswerGrants() {
        Peer p = Peer.fresh();
        Check.eq("an error", p.ask(Peer.read(9, 0, 1).credits(2)).credits(), 2);
        Check.eq("NOT_SUPPORTED", p.ask(new Req(11).credits(2)).credits(), 2);
        p.open("f");
        p.ask(Peer.lock(1, 0, 1, 2));
        Answer a = p.ask(Peer.lock(1, 0, 1, 2).credits(3));
        Check.eq("PENDING", a.status(), Status.PENDING);
        Check.eq("grants", a.credits(), 3);
    }

    /** "CREDITS: how many were GRANTED (0 of later answers)". */
    private static void laterAnswersGrantNothing() {
        Peer p = Peer.fresh();
        p.open("f");
        p.ask(Peer.lock(1, 0, 1, 2));
        p.ask(Peer.lock(1, 0, 1, 2).credits(3));
        p.ask(Peer.lock(1, 0, 1, 2).credits(3));
        p.wire.send(0, Peer.cancel().id(p.nextId - 1));
        Check.eq("CANCELLED", p.news().get(0).credits(), 0);
        p.ask(Peer.lock(1, 0, 1, 4));
        Check.eq("OK", p.notes.get(0).credits(), 0);
        Check.eq("a BREAK has none", breakCredits(), 0);
    }

    private static long breakCredits() {
        Peer p = Peer.fresh();
        p.open("f", 9);
        p.ask(Peer.create("f", Peer.ALL, 7, 1, 0, 0).credits(3));
        return p.notes.get(0).credits();
    }

    /** What an answer in a message grants may be used in the same message. */
    private static void withinOneMessage() {
        Wire w = connected();
        Req[] all = new Req[20];
        all[0] = Peer.negotiate().id(0).credits(1);
        for (int i = 1; i < 20; i++) {
            all[i] = Peer.echo().id(i).credits(1);
            if (i % 2 == 0) {
                all[i].related();
            }
        }
        Check.eq("one message", w.send(0, all), 1);
        Check.is("stands", w.house.isOpen(0));
        List<Answer> answers = w.answers(0);
        Check.eq("all are answered", answers.size(), 20);
        for (Answer a : answers) {
            Check.eq("each grants one", a.credits(), 1);
        }
    }

    private static void connectionsEachTheirOwn() {
        Wire w = connected();
        credits(w, Peer.negotiate().id(0).credits(16));
        w.house.connect(1);
        w.send(1, Peer.negotiate().id(5));
        Check.not("5 is not free there", w.house.isOpen(1));
        w.house.hang(0);
        w.house.connect(0);
        w.send(0, Peer.negotiate().id(5));
        Check.not("nor on the same, made anew", w.house.isOpen(0));
        w.house.connect(0);
        w.send(0, Peer.negotiate().id(0));
        Check.is("0 is", w.house.isOpen(0));
    }
}
