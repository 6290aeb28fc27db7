import java.util.List;

/** Promises 7 and 9, part 5: oplocks, BREAKS, creates that wait. */
public final class OplockTest {
    private static final int ALL = Peer.ALL;

    private OplockTest() {
    }

    public static void main(String[] args) {
        granted();
        breaksABatch();
        breaksByEmptying();
        exclusiveBehindShares();
        wrongAnswers();
        answeredByClose();
        lapses();
        lapsesBySerials();
        severalWait();
        notTheLast();
        sixteenWait();
        cancelled();
        levelTwo();
        doneAgainFromThePath();
        sessionsThatEnd();
        brokenBySelf();
        whatIsToldMeanwhile();
        Check.end("OplockTest");
    }

    private static Peer[] peers(int many) {
        Wire w = new Wire();
        w.share(0, "DATA");
        Peer[] all = new Peer[many];
        for (int i = 0; i < many; i++) {
            all[i] = Peer.on(w, i);
        }
        return all;
    }

    private static Req opening(String path, int disposition, int oplock) {
        return Peer.create(path, ALL, 7, disposition, 0, oplock);
    }

    private static void isBreak(String what, Answer a, long file, int level) {
        Check.eq(what + ": length", a.length(), 88);
        Check.eq(what + ": COMMAND", a.command(), 18);
        Check.eq(what + ": FLAGS", a.flags(), 1);
        Check.eq(what + ": ID", a.id(), -1L);
        Check.eq(what + ": header", a.n(4, 8) | a.n(14, 2) | a.n(20, 4) | a.n(32, 8) | a.n(40, 8), 64);
        Check.eq(what + ": body", a.n(64, 2), 24);
        Check.eq(what + ": level", a.n(66, 1), level);
        Check.eq(what + ": FILE", a.n(72, 8), file);
        Check.eq(what + ": FILE again", a.n(80, 8), file);
    }

    private static void granted() {
        Peer p = Peer.fresh();
        int[] asked = {0, 1, 8, 9, 2, 255};
        int[] alone = {0, 1, 8, 9, 0, 0};
        for (int i = 0; i < asked.length; i++) {
            Answer a = p.ask(opening("f", 3, asked[i]));
            Check.eq("alone " + asked[i], a.n(66, 1), alone[i]);
            p.ask(Peer.close(a.n(128, 8)));
            a = p.ask(opening("f", 1, asked[i]));
            Check.eq("alone, there " + asked[i], a.n(66, 1), alone[i]);
            p.ask(Peer.close(a.n(128, 8)));
        }
        long f = p.open("f");
        Check.eq("beside another: 9", p.ask(opening("f", 1, 9)).n(66, 1), 1);
        Check.eq("beside another: 8", p.ask(opening("f", 1, 8)).n(66, 1), 1);
        Check.eq("beside another: 1", p.ask(opening("f", 1, 1)).n(66, 1), 1);
        Check.eq("beside another: 0", p.ask(opening("f", 1, 0)).n(66, 1), 0);
        p.ask(Peer.lock(f, 0, 0, 2));
        p.wire.answers(0);
        Check.eq("with locks on it", p.ask(opening("f", 1, 9)).n(66, 1), 0);
        p.ask(Peer.lock(f, 0, 0, 4));
        Check.eq("without", p.ask(opening("f", 1, 9)).n(66, 1), 1);
    }

    private static void breaksABatch() {
        Peer[] p = peers(2);
        long f = p[0].open("f", 9);
        // one that shares nothing waits, too: BATCH is looked at ahead of SHARING
        Answer a = p[1].ask(Peer.create("f", ALL, 0, 3, 0, 9).put(32, 4, 0x55667788));
        Check.eq("PENDING", a.status(), Status.PENDING);
        Check.eq("error body", a.length(), 73);
        Check.eq("FLAGS", a.flags(), 3);
        Check.eq("the first ASYNC number", a.async(), 1);
        Check.eq("SESSION", a.session(), p[1].session);
        Check.eq("CREDITS", a.credits(), 1);
        Check.eq("it waits", p[0].wire.house.told(5), 1);
        List<Answer> news = p[0].news();
        Check.eq("one BREAK", news.size(), 1);
        isBreak("BREAK", news.get(0), f, 1);
        Check.eq("bytes still go", p[0].status(Peer.write(f, 0, "x")), Status.OK);
        a = p[0].ask(Peer.answerBreak(f, 1));
        Check.eq("answered", a.status(), 0);
        Check.eq("length", a.length(), 88);
        Check.eq("64", a.n(64, 2), 24);
        Check.eq("level", a.n(66, 1), 1);
        Check.eq("FILE", a.n(72, 8), f);
        Check.eq("FILE again", a.n(80, 8), f);
        news = p[1].news();
        Check.eq("one later answer", news.size(), 1);
        Check.eq("SHARING now", news.get(0).status(), Status.SHARING);
        Check.eq("its FLAGS", news.get(0).flags(), 3);
        Check.eq("its number", news.get(0).async(), 1);
        Check.eq("its CREDITS", news.get(0).credits(), 0);
        Check.eq("its ID", news.get(0).id(), p[1].nextId - 1);
        Check.eq("its SESSION", news.get(0).session(), p[1].session);
        Check.eq("none waits", p[0].wire.house.told(5), 0);
        a = p[1].ask(opening("f", 3, 9));
        Check.eq("LEVEL II does not break", a.status(), 0);
        Check.eq("LEVEL II it is", a.n(66, 1), 1);
    }

    private static void breaksByEmptying() {
        int[] emptying = {0, 4, 5};
        for (int d : emptying) {
            Peer[] p = peers(2);
            long f = p[0].open("f", 8);
            p[0].ask(Peer.write(f, 0, "abc"));
            Check.eq("PENDING " + d, p[1].status(opening("f", d, 0)), Status.PENDING);
            isBreak("to 0", p[0].news().get(0), f, 0);
            Check.eq("not emptied yet", p[0].ask(Peer.info(f, 1, 5, 24)).n(80, 8), 3);
            Check.eq("level 1 is above", p[0].status(Peer.answerBreak(f, 1)), Status.OPLOCK_PROTOCOL);
            Answer a = p[1].news().get(0);
            Check.eq("opened all the same", a.status(), 0);
            Check.eq("how", a.n(68, 4), d == 0 ? 0 : 3);
            Check.eq("emptied", p[0].ask(Peer.info(f, 1, 5, 24)).n(80, 8), 0);
            Check.eq("it is answered", p[0].status(Peer.answerBreak(f, 0)), Status.OPLOCK_PROTOCOL);
        }
    }

    private static void exclusiveBehindShares() {
        Peer[] p = peers(2);
        long f = p[0].open("f", 8);
        Check.eq("SHARING is ahead of EXCLUSIVE", p[1].status(Peer.create("f", ALL, 0, 3, 0, 0)), Status.SHARING);
        Check.eq("no BREAK", p[0].news().size(), 0);
        Check.eq("LOOK breaks, too", p[1].status(Peer.create("f", 0x80, 0, 3, 0, 0)), Status.PENDING);
        isBreak("EXCLUSIVE", p[0].news().get(0), f, 1);
        Check.eq("BROKEN is ahead of SHARING", p[1].status(Peer.create("f", ALL, 0, 3, 0, 0)), Status.PENDING);
        Check.eq("no second BREAK", p[0].news().size(), 0);
        Check.eq("NAME_COLLISION is ahead", p[1].status(opening("f", 2, 0)), Status.NAME_COLLISION);
        p[0].ask(Peer.answerBreak(f, 0));
        List<Answer> news = p[1].news();
        Check.eq("the first", news.get(0).status(), Status.OK);
        Check.eq("the second", news.get(1).status(), Status.SHARING);
    }

    private static void wrongAnswers() {
        Peer[] p = peers(2);
        long f = p[0].open("f", 9);
        Check.eq("not BROKEN", p[0].status(Peer.answerBreak(f, 0)), Status.OPLOCK_PROTOCOL);
        Check.eq("it has BATCH still", p[1].status(opening("f", 1, 1)), Status.PENDING);
        Check.eq("another's", p[1].status(Peer.answerBreak(f, 0)), Status.FILE_CLOSED);
        p[0].news();
        Check.eq("level 8", p[0].status(Peer.answerBreak(f, 8)), Status.OPLOCK_PROTOCOL);
        Check.eq("opened", p[1].news().get(0).status(), Status.OK);
        Check.eq("answered: 0", p[0].status(Peer.answerBreak(f, 0)), Status.OPLOCK_PROTOCOL);
        // it has 0 then: a WRITE of the other breaks nothing
        p[1].ask(opening("f", 1, 0));
        long g = 3;
        Check.eq("WRITE", p[1].status(Peer.write(g, 0, "x")), Status.OK);
        Check.eq("nothing to break", p[0].news().size(), 0);
    }

    private static void answeredByClose() {
        Peer[] p = peers(2);
        long f = p[0].open("f", 9);
        Check.eq("PENDING", p[1].status(opening("f", 1, 9)), Status.PENDING);
        p[0].news();
        Check.eq("CLOSE", p[0].status(Peer.close(f)), Status.OK);
        Answer a = p[1].news().get(0);
        Check.eq("opened", a.status(), Status.OK);
        Check.eq("alone: as asked", a.n(66, 1), 9);
        // and when the file goes by it
        Check.eq("it is to go", p[1].status(Peer.setToGo(a.n(128, 8), 1)), Status.OK);
        Check.eq("DELETE_PENDING is ahead", p[0].status(opening("f", 3, 0)), Status.DELETE_PENDING);
        p[1].ask(Peer.setToGo(a.n(128, 8), 0));
        Check.eq("waits", p[0].status(opening("f", 3, 8)), Status.PENDING);
        p[1].ask(Peer.setToGo(a.n(128, 8), 1));
        p[1].ask(Peer.close(a.n(128, 8)));
        Answer b = p[0].news().get(0);
        Check.eq("made anew", b.n(68, 4), 2);
        Check.eq("as asked", b.n(66, 1), 8);
    }

    private static void lapses() {
        Peer[] p = peers(2);
        House h = p[0].wire.house;
        h.tick(1000);
        long f = p[0].open("f", 9);
        Check.eq("PENDING", p[1].status(opening("f", 1, 9)), Status.PENDING);
        h.tick(34);
        Check.eq("34 went by", p[1].news().size(), 0);
        h.tick(0);
        Check.eq("34 still", h.told(5), 1);
        h.tick(1);
        Answer a = p[1].news().get(0);
        Check.eq("opened", a.status(), 0);
        Check.eq("LEVEL II", a.n(66, 1), 1);
        p[0].news();
        Check.eq("too late", p[0].status(Peer.answerBreak(f, 0)), Status.OPLOCK_PROTOCOL);
        p[1].ask(Peer.write(a.n(128, 8), 0, "x"));
        Check.eq("the lapsed one has 0", p[0].news().size(), 0);
    }

    private static void lapsesBySerials() {
        Peer[] p = peers(3);
        House h = p[0].wire.house;
        p[0].open("a", 9);
        p[0].open("b", 9);
        p[1].ask(opening("b", 1, 0));
        p[1].ask(opening("a", 1, 0));
        p[2].ask(opening("a", 1, 9));
        p[1].news();
        h.tick(1000000);
        List<Answer> news = p[1].news();
        Check.eq("two", news.size(), 2);
        Check.eq("a first", news.get(0).async(), 2);
        Check.eq("b then", news.get(1).async(), 1);
        Check.eq("serial of a", news.get(0).n(128, 8), 3);
        Check.eq("of the other a", p[2].news().get(0).n(128, 8), 4);
        Check.eq("serial of b", news.get(1).n(128, 8), 5);
    }

    private static void severalWait() {
        Peer[] p = peers(4);
        long f = p[0].open("f", 9);
        for (int i = 1; i < 4; i++) {
            Check.eq("PENDING", p[i].status(opening("f", 1, 9)), Status.PENDING);
        }
        Check.eq("one BREAK", p[0].news().size(), 1);
        p[0].ask(Peer.close(f));
        // the eldest gets BATCH, which is broken for the others
        List<Answer> one = p[1].news();
        Check.eq("opened and broken", one.size(), 2);
        Check.eq("the answer first", one.get(0).status(), 0);
        Check.eq("BATCH", one.get(0).n(66, 1), 9);
        isBreak("then its BREAK", one.get(1), one.get(0).n(128, 8), 1);
        Check.eq("the others wait on", p[2].news().size() + p[3].news().size(), 0);
        Check.eq("two of them", p[0].wire.house.told(5), 2);
        p[0].wire.house.tick(35);
        Check.eq("LEVEL II", p[2].news().get(0).n(66, 1), 1);
        Check.eq("LEVEL II, too", p[3].news().get(0).n(66, 1), 1);
    }

    private static void notTheLast() {
        Peer[] p = peers(2);
        long f = p[0].open("f", 9);
        List<Answer> all = p[1].askAll(opening("f", 1, 0), Peer.echo());
        Check.eq("does not wait", all.get(0).status(), Status.SHARING);
        isBreak("BREAK all the same", p[0].news().get(0), f, 1);
        all = p[1].askAll(opening("f", 1, 0), Peer.echo());
        Check.eq("BROKEN: does not wait, either", all.get(0).status(), Status.SHARING);
        all = p[1].askAll(Peer.echo(), opening("f", 1, 0).related());
        Check.eq("the last one waits", all.get(1).status(), Status.PENDING);
        Check.eq("RELATED, ASYNC", all.get(1).flags(), 7);
        p[0].ask(Peer.answerBreak(f, 0));
        Answer a = p[1].news().get(0);
        Check.eq("opened", a.status(), 0);
        Check.eq("RELATED, ASYNC still", a.flags(), 7);
    }

    private static void sixteenWait() {
        Peer[] p = peers(3);
        long f = p[0].open("f", 9);
        long g = p[0].open("g", 8);
        for (int i = 1; i <= 16; i++) {
            Answer a = p[1].ask(opening("f", 1, 0));
            Check.eq("PENDING", a.status(), Status.PENDING);
            Check.eq("number", a.async(), i);
        }
        p[0].news();
        Answer a = p[2].ask(opening("g", 1, 0));
        Check.eq("the 17th", a.status(), Status.RESOURCES);
        Check.eq("not ASYNC", a.flags(), 1);
        isBreak("but it was BROKEN", p[0].news().get(0), g, 1);
        Check.eq("16 wait", p[0].wire.house.told(5), 16);
        p[0].ask(Peer.close(f));
        Check.eq("all are opened", p[1].news().size(), 16);
        a = p[2].ask(opening("g", 1, 0));
        Check.eq("waits", a.status(), Status.PENDING);
        Check.eq("the number was not used", a.async(), 17);
    }

    private static void cancelled() {
        Peer[] p = peers(3);
        p[0].open("f", 9);
        p[1].ask(opening("f", 1, 0));
        p[2].ask(opening("f", 1, 0));
        House h = p[0].wire.house;
        h.drop(0);
        p[1].wire.send(1, Peer.cancel().flags(2).put(32, 8, 2));
        Check.eq("of another connection", h.told(5), 2);
        p[1].wire.send(1, Peer.cancel().id(p[1].nextId));
        Check.eq("another ID", h.told(5), 2);
        p[1].wire.send(1, Peer.cancel().id(p[1].nextId - 1).put(64, 2, 5));
        Check.eq("no body", h.told(5), 2);
        p[1].wire.send(1, Peer.cancel().id(p[1].nextId - 1));
        Answer a = p[1].news().get(0);
        Check.eq("CANCELLED", a.status(), Status.CANCELLED);
        Check.eq("COMMAND", a.command(), 5);
        Check.eq("ASYNC", a.flags(), 3);
        Check.eq("number", a.async(), 1);
        Check.eq("error body", a.length(), 73);
        p[2].wire.send(2, Peer.cancel().flags(2).put(32, 8, 2).id(77));
        Check.eq("by its number", p[2].news().get(0).status(), Status.CANCELLED);
        Check.eq("none waits", h.told(5), 0);
        Check.eq("BROKEN still: it lapses", p[1].status(opening("f", 1, 0)), Status.PENDING);
        Check.eq("no new BREAK", p[0].news().size(), 0);
    }

    private static void levelTwo() {
        Peer[] p = peers(3);
        long a = p[0].open("f", 1);
        long b = p[1].open("f", 1);
        long c = p[2].open("f", 1);
        Check.eq("WRITE", p[1].status(Peer.write(b, 0, "abc")), Status.OK);
        isBreak("of the first", p[0].news().get(0), a, 0);
        isBreak("of the third", p[2].news().get(0), c, 0);
        Check.eq("not its own", p[1].notes.size(), 0);
        Check.eq("nothing need be answered", p[0].status(Peer.answerBreak(a, 0)), Status.OPLOCK_PROTOCOL);
        Check.eq("none: no break", p[0].status(Peer.write(a, 0, "")), Status.OK);
        Check.eq("nothing", p[1].news().size(), 0);
        Check.eq("SET_INFO 20", p[0].status(Peer.setSize(a, 3)), Status.OK);
        isBreak("by SET_INFO", p[1].news().get(0), b, 0);
        p[1].ask(Peer.close(b));
        b = p[1].open("f", 1);
        Check.eq("emptied", p[2].status(opening("f", 5, 0)), Status.OK);
        isBreak("by emptying", p[1].news().get(0), b, 0);
        p[1].ask(Peer.close(b));
        b = p[1].open("f", 1);
        // its own, too; ahead of the answer
        Check.eq("LOCK", p[1].status(Peer.lock(b, 0, 1, 2)), Status.OK);
        Check.eq("its own, too", p[1].notes.size(), 1);
        isBreak("by LOCK", p[1].notes.get(0), b, 0);
    }

    private static void doneAgainFromThePath() {
        Peer[] p = peers(2);
        long f = p[0].open("f", 9);
        long other = p[0].open("other");
        Check.eq("waits for f", p[1].status(opening("f", 1, 0)), Status.PENDING);
        Check.eq("renamed", p[0].status(Peer.rename(f, 0, "g")), Status.OK);
        Check.eq("closing another", p[0].status(Peer.close(other)), Status.OK);
        Check.eq("it waits for the node", p[0].wire.house.told(5), 1);
        p[0].ask(Peer.answerBreak(f, 0));
        Check.eq("the path leads nowhere now", p[1].news().get(0).status(), Status.NAME_NOT_FOUND);
    }

    private static void sessionsThatEnd() {
        Peer[] p = peers(3);
        House h = p[0].wire.house;
        long f = p[0].open("f", 9);
        p[1].ask(opening("f", 1, 9));
        p[2].ask(opening("f", 1, 9));
        Check.eq("tree off", p[1].status(Peer.treeOff()), Status.OK);
        Check.eq("given up", h.told(5), 1);
        Check.eq("without answer", p[1].news().size() + p[1].notes.size(), 0);
        Peer extra = Peer.on(p[0].wire, 4);
        Check.eq("waits", extra.status(opening("f", 1, 9)), Status.PENDING);
        h.hang(4);
        Check.eq("given up by hang", h.told(5), 1);
        Check.eq("without answer, too", h.outs(4), 0);
        extra = Peer.on(p[0].wire, 5);
        long g = extra.open("g");
        extra.ask(Peer.lock(g, 0, 1, 2));
        Check.eq("a lock waits", extra.status(Peer.lock(g, 0, 1, 2)), Status.PENDING);
        Check.eq("a create waits", extra.status(opening("f", 1, 9)), Status.PENDING);
        Check.eq("log off", extra.status(Peer.logOff()), Status.OK);
        Check.eq("given up by LOGOFF", h.told(5), 1);
        Check.eq("with no answer but its own", extra.notes.size(), 0);
        h.hang(0);
        Check.eq("the other is opened", p[2].news().get(0).n(66, 1), 9);
        Check.eq("the BREAK came to the first", h.outs(0), 92);
        Check.eq("the files stay", h.told(2), 3);
        Check.eq("serial " + f, f, 1);
    }

    private static void brokenBySelf() {
        Peer p = Peer.fresh();
        long f = p.open("f", 8);
        Answer a = p.ask(opening("f", 1, 1));
        Check.eq("its own open breaks, too", a.status(), Status.PENDING);
        Check.eq("ahead of the answer", p.notes.size(), 1);
        isBreak("own", p.notes.get(0), f, 1);
        a = p.ask(Peer.answerBreak(f, 1));
        Check.eq("answered", a.status(), 0);
        Check.eq("the later answer went ahead", p.notes.size(), 1);
        Check.eq("CREATE", p.notes.get(0).command(), 5);
        Check.eq("opened", p.notes.get(0).status(), 0);
    }

    /** A create that is done again does not become the FILE of a message under way on its connection. */
    private static void whatIsToldMeanwhile() {
        Peer p = Peer.fresh();
        long f = p.open("f", 9);
        long g = p.open("g");
        p.ask(opening("f", 1, 0));
        List<Answer> all = p.askAll(Peer.close(f), Peer.write(Peer.BEFORE, 0, "x").related());
        Check.eq("opened meanwhile", p.notes.get(0).status(), 0);
        Check.eq("FILE is the one of CLOSE", all.get(1).status(), Status.FILE_CLOSED);
        Check.eq("g stays", p.status(Peer.write(g, 0, "x")), Status.OK);
    }
}
