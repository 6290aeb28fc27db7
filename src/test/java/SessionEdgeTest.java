import java.util.List;

/** Part 3, "SESSIONS": each edge that it names. */
public final class SessionEdgeTest {
    private static final int ALL = Peer.ALL;

    private SessionEdgeTest() {
    }

    public static void main(String[] args) {
        dialects();
        dialectsAreAllThere();
        negotiateTellsNow();
        namesHave1To16Bytes();
        namesHaveBytes33To126();
        formerOfAnyConnection();
        formerWithTheSameBytes();
        formerThatIsNone();
        formerEndsFirst();
        refusedNamesEndNothing();
        eightSessions();
        sessionAskedIsNotLookedAt();
        logOffEndsTrees();
        pathsOfShares();
        oddPathsOfShares();
        sixteenTrees();
        disconnectClosesOpens();
        whatWaitsIsGivenUp();
        sessionsEndBySerials();
        echoNeedsNothing();
        cancelByNumber();
        cancelById();
        cancelOfNone();
        cancelWithAnotherBody();
        Check.end("SessionEdgeTest");
    }

    private static Req offering(int... all) {
        Req r = Req.of(0, 36).put(66, 2, all.length);
        for (int i = 0; i < all.length; i++) {
            r.put(100 + 2 * i, 2, all[i]);
        }
        return r;
    }

    private static int negotiated(Req r) {
        Wire w = new Wire();
        w.house.connect(0);
        return new Peer(w, 0).status(r);
    }

    /** "one must be 0202 (hexadecimal; else NOT_SUPPORTED; none, ..: INVALID_PARAMETER)". */
    private static void dialects() {
        Check.eq("none", negotiated(offering()), Status.INVALID_PARAMETER);
        Check.eq("none, though bytes stand there", negotiated(offering(0x0202).put(66, 2, 0)), Status.INVALID_PARAMETER);
        Check.eq("0202", negotiated(offering(0x0202)), Status.OK);
        Check.eq("0201", negotiated(offering(0x0201)), Status.NOT_SUPPORTED);
        Check.eq("0203", negotiated(offering(0x0203)), Status.NOT_SUPPORTED);
        Check.eq("0302", negotiated(offering(0x0302)), Status.NOT_SUPPORTED);
        Check.eq("the first of two", negotiated(offering(0x0202, 0x0210)), Status.OK);
        Check.eq("the last of two", negotiated(offering(0x0210, 0x0202)), Status.OK);
        Check.eq("across two", negotiated(offering(0x0210, 0x1002, 0x0302)), Status.NOT_SUPPORTED);
        Check.eq("behind those that are told", negotiated(offering(0x0210, 0x0202).put(66, 2, 1)), Status.NOT_SUPPORTED);
    }

    /** "or not all there: INVALID_PARAMETER". */
    private static void dialectsAreAllThere() {
        Check.eq("one byte short", negotiated(offering(0x0202, 0x0210).length(103)), Status.INVALID_PARAMETER);
        Check.eq("all there", negotiated(offering(0x0202, 0x0210).length(104)), Status.OK);
        Check.eq("one more told", negotiated(offering(0x0202, 0x0210).put(66, 2, 3)), Status.INVALID_PARAMETER);
        Check.eq("many more", negotiated(offering(0x0202).put(66, 2, 0xFFFF)), Status.INVALID_PARAMETER);
        Check.eq("ahead of NOT_SUPPORTED", negotiated(offering(0x0210).put(66, 2, 2)), Status.INVALID_PARAMETER);
        int[] most = new int[1950];
        most[1949] = 0x0202;
        Check.eq("as many as a message has", negotiated(offering(most)), Status.OK);
    }

    /** "104 (8) NOW". */
    private static void negotiateTellsNow() {
        Wire w = new Wire();
        for (int i = 0; i < 5; i++) {
            w.house.tick(1000000);
        }
        w.house.connect(0);
        Check.eq("NOW", new Peer(w, 0).ask(offering(0x0202)).n(104, 8), 5000000);
    }

    /** "the user's name is (1 .. 16 bytes ..: else INVALID_PARAMETER)". */
    private static void namesHave1To16Bytes() {
        Peer p = Peer.bare(new Wire(), 0);
        Check.eq("0", p.status(Peer.setUp("", 0)), Status.INVALID_PARAMETER);
        Check.eq("17", p.status(Peer.setUp("12345678901234567", 0)), Status.INVALID_PARAMETER);
        Check.eq("256 and 1", p.status(Peer.setUp("x".repeat(257), 0)), Status.INVALID_PARAMETER);
        Check.eq("no session", p.wire.house.told(6), 0);
        Check.eq("1", p.ask(Peer.setUp("1", 0)).session(), 1);
        Check.eq("16", p.ask(Peer.setUp("1234567890123456", 0)).session(), 2);
    }

    /** "bytes 33 .. 126". */
    private static void namesHaveBytes33To126() {
        int[] edges = {0, 31, 32, 33, 34, 92, 125, 126, 127, 128, 160, 255};
        for (int b : edges) {
            boolean fits = b >= 33 && b <= 126;
            for (String name : new String[] {"" + (char) b, "a" + (char) b, (char) b + "a"}) {
                Peer p = Peer.bare(new Wire(), 0);
                Check.eq("byte " + b, p.status(Peer.setUp(name, 0)), fits ? Status.OK : Status.INVALID_PARAMETER);
                Check.eq("session " + b, p.wire.house.told(6), fits ? 1 : 0);
            }
        }
    }

    private static Wire shared() {
        Wire w = new Wire();
        w.share(0, "DATA");
        return w;
    }

    /** "a former session: if it is one (of any connection) with the same name .., it ends first". */
    private static void formerOfAnyConnection() {
        Wire w = shared();
        Peer p = Peer.on(w, 0);
        p.open("f");
        Peer q = Peer.bare(w, 5);
        Check.eq("another connection's", q.ask(Peer.setUp("user0", 1)).session(), 2);
        Check.eq("one session", w.house.told(6), 1);
        Check.eq("no tree", w.house.told(7), 0);
        Check.eq("no open", w.house.told(3), 0);
        Check.eq("it is gone", p.status(Peer.treeOff()), Status.SESSION_GONE);
        Check.eq("its own connection's", q.ask(Peer.setUp("user0", 2)).session(), 3);
        Check.eq("one session still", w.house.told(6), 1);
    }

    /** "(bytes just the same)". */
    private static void formerWithTheSameBytes() {
        Wire w = shared();
        Peer p = Peer.bare(w, 0);
        p.setUp("User");
        String[] others = {"user", "USER", "Use", "User1", "Usez"};
        for (int i = 0; i < others.length; i++) {
            p.ask(Peer.setUp(others[i], 1));
            Check.eq("not the same: " + others[i], w.house.told(6), i + 2);
        }
        p.ask(Peer.setUp("User", 1));
        Check.eq("the same", w.house.told(6), 6);
    }

    private static void formerThatIsNone() {
        Peer p = Peer.bare(new Wire(), 0);
        p.setUp("u");
        long[] none = {0, 50, 99, -1L, 1L << 32 | 1, 1L << 56 | 1, 1L << 63};
        for (int i = 0; i < none.length; i++) {
            Check.eq("former " + none[i], p.status(Peer.setUp("u", none[i])), Status.OK);
            Check.eq("sessions", p.wire.house.told(6), i + 2);
        }
    }

    /** "it ends first": what it held open can be had by the time of the answer. */
    private static void formerEndsFirst() {
        Wire w = shared();
        Peer p = Peer.on(w, 0);
        p.open("f", 9);
        Peer q = Peer.on(w, 1);
        Check.eq("waits", q.status(Peer.create("f", ALL, 7, 1, 0, 9)), Status.PENDING);
        p.news();
        p.ask(Peer.setUp("user0", p.session));
        Answer a = q.news().get(0);
        Check.eq("opened", a.status(), Status.OK);
        Check.eq("alone", a.n(66, 1), 9);
        // of the own connection, what waits is given up without answer
        Check.eq("waits again", p.status2(Peer.create("f", ALL, 7, 1, 0, 0), p.session, p.tree), Status.SESSION_GONE);
        p.setUp("x");
        p.connectTree("DATA");
        Check.eq("waits", p.status(Peer.create("f", ALL, 7, 1, 0, 0)), Status.PENDING);
        p.ask(Peer.setUp("x", p.session));
        Check.eq("given up", w.house.told(5), 0);
        Check.eq("without answer", p.notes.size(), 0);
    }

    private static void refusedNamesEndNothing() {
        Wire w = shared();
        Peer p = Peer.on(w, 0);
        p.open("f");
        Check.eq("no name", p.status(Peer.setUp("", 1)), Status.INVALID_PARAMETER);
        Check.eq("one behind the end", p.status(Peer.setUp("user0", 1).put(78, 2, 6)), Status.INVALID_PARAMETER);
        Check.eq("the session stays", w.house.told(6), 1);
        Check.eq("and its open", p.status(Peer.read(1, 0, 0)), Status.OK);
    }

    /** "There are 8 sessions at most (RESOURCES; ..)". */
    private static void eightSessions() {
        Wire w = shared();
        Peer[] p = {Peer.bare(w, 0), Peer.bare(w, 1), Peer.bare(w, 2)};
        for (int i = 1; i <= 8; i++) {
            Check.eq("session", p[i % 3].ask(Peer.setUp("u" + i, 0)).session(), i);
        }
        Answer a = p[0].ask(Peer.setUp("x", 0));
        Check.eq("the ninth", a.status(), Status.RESOURCES);
        Check.eq("SESSION as asked", a.session(), 0);
        Check.eq("another's name ends nothing", p[0].status(Peer.setUp("x", 3)), Status.RESOURCES);
        Check.eq("eight", w.house.told(6), 8);
        a = p[0].ask(Peer.setUp("u3", 3));
        Check.eq("the former one makes room", a.status(), Status.OK);
        Check.eq("no serial was used up", a.session(), 9);
        Check.eq("eight again", w.house.told(6), 8);
        Check.eq("it is none any more", p[0].status(Peer.setUp("u3", 3)), Status.RESOURCES);
        w.house.hang(1);
        Check.eq("three went", w.house.told(6), 5);
        Check.eq("room", p[0].ask(Peer.setUp("x", 0)).session(), 10);
    }

    /** "SESSION asked is not looked at." */
    private static void sessionAskedIsNotLookedAt() {
        Peer p = Peer.bare(new Wire(), 0);
        p.session = -1L;
        Check.eq("none such", p.ask(Peer.setUp("u", 0)).session(), 1);
        p.session = 1;
        Check.eq("one that is", p.ask(Peer.setUp("u", 0)).session(), 2);
        Check.eq("both are", p.wire.house.told(6), 2);
    }

    /** "the session ends: its trees end, by their serials". */
    private static void logOffEndsTrees() {
        Wire w = shared();
        Peer p = Peer.on(w, 0);
        long first = p.session;
        p.open("a");
        p.connectTree("DATA");
        p.open("b");
        p.setUp("other");
        p.connectTree("DATA");
        p.open("c");
        Check.eq("LOGOFF of the first", p.status2(Peer.logOff(), first, 0), Status.OK);
        Check.eq("sessions", w.house.told(6), 1);
        Check.eq("trees", w.house.told(7), 1);
        Check.eq("opens", w.house.told(3), 1);
        Check.eq("the other's is open", p.status(Peer.read(3, 0, 0)), Status.OK);
        Check.is("the connection is there", w.house.isOpen(0));
        Check.eq("twice", p.status2(Peer.logOff(), first, 0), Status.SESSION_GONE);
    }

    /** "what stands behind the last \ in it (all, without one) is a SHARE's name (BAD_SHARE; ..)". */
    private static void pathsOfShares() {
        Peer p = Peer.fresh();
        String[] fits = {"DATA", "\\DATA", "\\\\x\\DATA", "a\\b\\c\\data", "\\\\\\\\Data"};
        for (String s : fits) {
            Check.eq("a share: " + s, p.status(Peer.tree(s)), Status.OK);
        }
        String[] none = {"", "\\", "DATA\\", "DATA\\x", "xDATA", "DATAx", "DAT", "DATA ", " DATA", "/DATA", "D\u0141TA",
            "DAT\u0141"};
        for (String s : none) {
            Check.eq("no share: " + s, p.status(Peer.tree(s)), Status.BAD_SHARE);
        }
        Check.eq("trees", p.wire.house.told(7), 1 + fits.length);
        Peer q = Peer.fresh();
        Check.eq("a long way", q.status(Peer.tree("x".repeat(200) + "\\DATA")), Status.OK);
        Check.eq("a \\ behind its end", q.status(Peer.tree("DATA\\").put(70, 2, 8)), Status.OK);
        Check.eq("015C is no \\", q.status(Peer.tree("x\u015CDATA")), Status.BAD_SHARE);
        Check.eq("nor is 5C00", q.status(Peer.tree("\u5C00DATA")), Status.BAD_SHARE);
        Check.eq("units stand at even places", q.status(Peer.tree("\u5C41\u4400\u4100\u5400\u4100\u0000")),
                Status.BAD_SHARE);
    }

    /** "(..; an odd length: INVALID_PARAMETER)". */
    private static void oddPathsOfShares() {
        Peer p = Peer.fresh();
        Check.eq("odd", p.status(Peer.tree("DATAX").put(70, 2, 9)), Status.INVALID_PARAMETER);
        Check.eq("1", p.status(Peer.tree("DATA").put(70, 2, 1)), Status.INVALID_PARAMETER);
        Check.eq("ahead of BAD_SHARE", p.status(Peer.tree("NONE").put(70, 2, 7)), Status.INVALID_PARAMETER);
        Check.eq("even", p.status(Peer.tree("DATAX").put(70, 2, 8)), Status.OK);
        Check.eq("no share at all is BAD_SHARE", noShares(), Status.BAD_SHARE);
    }

    private static int noShares() {
        Peer p = Peer.bare(new Wire(), 0);
        p.setUp("u");
        return p.status(Peer.tree("DATA"));
    }

    /** "16 trees at most (RESOURCES, behind BAD_SHARE)". */
    private static void sixteenTrees() {
        Wire w = shared();
        Peer p = Peer.on(w, 0);
        Peer q = Peer.on(w, 1);
        for (int i = 3; i <= 16; i++) {
            Check.eq("tree", (i % 2 == 0 ? p : q).ask(Peer.tree("DATA")).tree(), i);
        }
        Answer a = q.ask(Peer.tree("DATA"));
        Check.eq("the 17th", a.status(), Status.RESOURCES);
        Check.eq("TREE as asked", a.tree(), q.tree);
        Check.eq("BAD_SHARE is ahead", q.status(Peer.tree("NONE")), Status.BAD_SHARE);
        Check.eq("an odd length, too", q.status(Peer.tree("DATA").put(70, 2, 7)), Status.INVALID_PARAMETER);
        Check.eq("16", w.house.told(7), 16);
        p.ask(Peer.treeOff());
        Check.eq("room for one", q.ask(Peer.tree("DATA")).tree(), 17);
        Check.eq("none again", q.status(Peer.tree("DATA")), Status.RESOURCES);
    }

    /** "the tree ends: its opens are closed, by their serials, as by CLOSE (with no answers), then it is none". */
    private static void disconnectClosesOpens() {
        Wire w = shared();
        Peer p = Peer.on(w, 0);
        Peer q = Peer.on(w, 1);
        p.open("a", 9);
        p.ask(Peer.create("b", ALL, 7, 3, 0x1000, 0));
        p.open("c", 9);
        long other = p.ask(Peer.tree("DATA")).tree();
        Check.eq("for c", q.status(Peer.shortCreate("c", ALL, 7, 1, 0, 0)), Status.PENDING);
        Check.eq("for a", q.status(Peer.shortCreate("a", ALL, 7, 1, 0, 0)), Status.PENDING);
        p.news();
        Check.eq("TREE_DISCONNECT", p.status(Peer.treeOff()), Status.OK);
        Check.eq("no other answers", p.notes.size(), 0);
        List<Answer> news = q.news();
        Check.eq("a first", news.get(0).async(), 2);
        Check.eq("then c", news.get(1).async(), 1);
        Check.eq("b went", w.house.told(2), 3);
        Check.eq("records came", w.house.told(1), 0);
        Check.eq("it is none", p.status(Peer.treeOff()), Status.TREE_GONE);
        Check.eq("the other is", p.status2(Peer.treeOff(), p.session, other), Status.OK);
        Check.eq("trees", w.house.told(7), 1);
    }

    /** "REQUESTS of it that wait are given up, without answer, first (of a connection, of a session all of it)". */
    private static void whatWaitsIsGivenUp() {
        for (int how = 0; how < 4; how++) {
            Wire w = shared();
            Peer p = Peer.on(w, 0);
            Peer q = Peer.on(w, 1);
            p.open("f");
            p.open("g", 9);
            q.open("f");
            q.ask(Peer.lock(3, 0, 9, 2));
            Check.eq("a LOCK", p.status(Peer.lock(1, 0, 1, 2)), Status.PENDING);
            Check.eq("a CREATE of its own file", p.status(Peer.shortCreate("g", ALL, 7, 1, 0, 0)), Status.PENDING);
            Check.eq("another's", q.status(Peer.shortCreate("g", ALL, 7, 1, 0, 0)), Status.PENDING);
            p.news();
            p.notes.clear();
            if (how == 0) {
                w.house.hang(0);
            } else if (how == 1) {
                w.come(0, new byte[] {1, 0, 0, 0});
            } else {
                p.ask(how == 2 ? Peer.logOff() : Peer.treeOff());
            }
            Check.eq("no answers of those", w.house.outs(0) + p.notes.size(), 0);
            Check.eq("none wait", w.house.told(5), 0);
            Check.eq("the other's is opened", q.news().get(0).status(), Status.OK);
            Check.eq("opens", w.house.told(3), 2);
            Check.eq("no serial was used for the one given up", q.status(Peer.read(4, 0, 0)), Status.OK);
        }
    }

    /** "its sessions end (by serials)": not by the serials of their trees or opens. */
    private static void sessionsEndBySerials() {
        for (int how = 0; how < 2; how++) {
            Wire w = shared();
            Peer p = Peer.bare(w, 0);
            p.setUp("one");
            p.setUp("two");
            p.connectTree("DATA");
            p.open("a", 9);
            p.session = 1;
            p.connectTree("DATA");
            p.open("b", 9);
            Peer q = Peer.on(w, 1);
            Check.eq("for a", q.status(Peer.shortCreate("a", ALL, 7, 1, 0, 0)), Status.PENDING);
            Check.eq("for b", q.status(Peer.shortCreate("b", ALL, 7, 1, 0, 0)), Status.PENDING);
            if (how == 0) {
                w.house.hang(0);
            } else {
                w.come(0, new byte[] {1, 0, 0, 0});
            }
            List<Answer> news = q.news();
            Check.eq("b, of the first session", news.get(0).async(), 2);
            Check.eq("then a", news.get(1).async(), 1);
        }
    }

    /** ECHO needs neither SESSION nor TREE. */
    private static void echoNeedsNothing() {
        Peer p = Peer.bare(new Wire(), 0);
        Answer a = p.ask(Peer.echo());
        Check.eq("OK", a.status(), Status.OK);
        Check.eq("4", a.n(64, 4), 4);
        Check.eq("length", a.length(), 68);
        Check.eq("3", p.status(Peer.echo().put(64, 2, 3)), Status.INVALID_PARAMETER);
        Check.eq("5", p.status(Peer.echo().put(64, 2, 5)), Status.INVALID_PARAMETER);
        Check.eq("one byte short", p.status(Peer.echo().length(67)), Status.INVALID_PARAMETER);
    }

    /** Two peers; of each a LOCK waits: ASYNC number 1 of the first, 2 of the second. */
    private static Peer[] waiting() {
        Wire w = shared();
        Peer[] p = {Peer.on(w, 0), Peer.on(w, 1)};
        p[0].open("f");
        p[1].open("f");
        p[0].ask(Peer.lock(1, 0, 1, 2));
        p[0].ask(Peer.lock(1, 0, 1, 2));
        p[1].ask(Peer.lock(2, 0, 1, 2));
        Check.eq("two wait", w.house.told(5), 2);
        return p;
    }

    /** "FLAGS ASYNC: by its ASYNC number". */
    private static void cancelByNumber() {
        Peer[] p = waiting();
        Wire w = p[0].wire;
        w.send(0, Peer.cancel().flags(2).put(32, 8, 2).id(p[0].nextId - 1));
        Check.eq("of another connection", w.house.told(5), 2);
        w.send(0, Peer.cancel().flags(2).put(32, 8, 1L << 32 | 1), Peer.cancel().flags(2).put(32, 8, 1L << 56 | 1));
        Check.eq("all 8 bytes of it", w.house.told(5), 2);
        w.send(0, Peer.cancel().flags(2).put(32, 8, 0).id(p[0].nextId - 1));
        Check.eq("not by ID then", w.house.told(5), 2);
        w.send(0, Peer.cancel().flags(2).put(32, 8, 1).id(12345));
        Check.eq("it", w.house.told(5), 1);
        Answer a = p[0].news().get(0);
        Check.eq("CANCELLED", a.status(), Status.CANCELLED);
        Check.eq("number", a.async(), 1);
        Check.eq("ID", a.id(), p[0].nextId - 1);
        w.send(0, Peer.cancel().flags(2).put(32, 8, 1));
        Check.eq("none any more", w.house.outs(0), 0);
    }

    /** "else by ID". */
    private static void cancelById() {
        Peer[] p = waiting();
        Wire w = p[0].wire;
        w.send(0, Peer.cancel().id(p[0].nextId).put(32, 8, 1));
        Check.eq("another ID, not by number", w.house.told(5), 2);
        w.send(0, Peer.cancel().id(p[0].nextId - 1 | 1L << 40), Peer.cancel().id(p[0].nextId - 1 | 1L << 56));
        Check.eq("all 8 bytes of it", w.house.told(5), 2);
        w.send(0, Peer.cancel().id(p[0].nextId - 1).put(32, 8, 2));
        Check.eq("it", w.house.told(5), 1);
        Check.eq("CANCELLED", p[0].news().get(0).status(), Status.CANCELLED);
        Check.eq("the lock is there still", p[1].status(Peer.lock(2, 0, 1, 0x12)), Status.LOCK_NOT_GRANTED);
        p[0].ask(Peer.lock(1, 0, 1, 4));
        Check.eq("the other's is answered", p[1].news().get(0).status(), Status.OK);
    }

    /** "none: nothing". */
    private static void cancelOfNone() {
        Peer[] p = waiting();
        Wire w = p[0].wire;
        w.send(0, Peer.cancel().id(0), Peer.cancel().id(-1L), Peer.cancel().flags(2).put(32, 8, -1L));
        Check.eq("nothing", w.house.outs(0), 0);
        Check.eq("both wait", w.house.told(5), 2);
        Check.is("it stands", w.house.isOpen(0));
    }

    /** "12 CANCEL: 64 (2) 4 (else nothing)". */
    private static void cancelWithAnotherBody() {
        Peer[] p = waiting();
        Wire w = p[0].wire;
        long id = p[0].nextId - 1;
        w.send(0, Peer.cancel().id(id).put(64, 2, 3));
        w.send(0, Peer.cancel().id(id).put(64, 2, 5));
        w.send(0, Peer.cancel().id(id).length(67));
        w.send(0, Peer.cancel().id(id).length(64));
        Check.eq("nothing", w.house.told(5), 2);
        Check.eq("no answer", w.house.outs(0), 0);
        Check.is("it stands", w.house.isOpen(0));
        w.send(0, Peer.cancel().id(id).length(100));
        Check.eq("4", w.house.told(5), 1);
    }
}
