import java.util.List;

/** Promises 5 to 8, part 3: NEGOTIATE, sessions, trees, what ends with them. */
public final class SessionTest {
    private SessionTest() {
    }

    public static void main(String[] args) {
        negotiates();
        setsUp();
        formerSessions();
        eightSessions();
        connectsTrees();
        sixteenTrees();
        logsOff();
        hangs();
        endsInOrder();
        echoes();
        Check.end("SessionTest");
    }

    private static void negotiates() {
        Wire w = new Wire();
        w.house.connect(0);
        w.house.tick(77);
        Peer p = new Peer(w, 0);
        Check.eq("none", p.status(Peer.negotiate().put(66, 2, 0)), Status.INVALID_PARAMETER);
        Check.eq("not all there", p.status(Peer.negotiate().put(66, 2, 2)), Status.INVALID_PARAMETER);
        Check.eq("another size", p.status(Peer.negotiate().put(64, 2, 35)), Status.INVALID_PARAMETER);
        Check.eq("too short", p.status(Peer.negotiate().length(98)), Status.INVALID_PARAMETER);
        Check.eq("others", p.status(Peer.negotiate().put(66, 2, 2).put(102, 2, 3).put(100, 2, 2)),
                Status.NOT_SUPPORTED);
        Answer a = p.ask(Peer.negotiate().put(66, 2, 3).put(100, 2, 0x0210).put(102, 2, 0x0300).put(104, 2, 0x0202));
        Check.eq("OK", a.status(), 0);
        Check.eq("length", a.length(), 129);
        Check.eq("64", a.n(64, 2), 65);
        Check.eq("66", a.n(66, 2), 1);
        Check.eq("68", a.n(68, 2), 0x0202);
        Check.eq("70", a.n(70, 8) | a.n(78, 8) | a.n(86, 6), 0);
        Check.eq("92", a.n(92, 4), 1024);
        Check.eq("96", a.n(96, 4), 1024);
        Check.eq("100", a.n(100, 4), 1024);
        Check.eq("NOW", a.n(104, 8), 77);
        Check.eq("112", a.n(112, 8), 0);
        Check.eq("120", a.n(120, 2), 128);
        Check.eq("the rest", a.n(122, 7), 0);
    }

    private static void setsUp() {
        Peer p = Peer.bare(new Wire(), 0);
        p.session = 12345;
        Answer a = p.ask(Peer.setUp("!", 0));
        Check.eq("OK", a.status(), 0);
        Check.eq("the first", a.session(), 1);
        Check.eq("length", a.length(), 73);
        Check.eq("body", a.n(64, 8), 9 | 72L << 32);
        Check.eq("last", a.n(72, 1), 0);
        Check.eq("the second", p.ask(Peer.setUp("0123456789abcdef", 0)).session(), 2);
        Check.eq("no name", p.status(Peer.setUp("", 0)), Status.INVALID_PARAMETER);
        Check.eq("17", p.status(Peer.setUp("0123456789abcdefg", 0)), Status.INVALID_PARAMETER);
        Check.eq("a space", p.status(Peer.setUp("a b", 0)), Status.INVALID_PARAMETER);
        Check.eq("127", p.status(Peer.setUp("a\u007f", 0)), Status.INVALID_PARAMETER);
        Check.eq("not within", p.status(Peer.setUp("ab", 0).put(78, 2, 3)), Status.INVALID_PARAMETER);
        Check.eq("in the header", p.status(Peer.setUp("ab", 0).put(76, 2, 0)), Status.INVALID_PARAMETER);
        Check.eq("refused: as asked", p.ask(Peer.setUp("", 0)).session(), 12345);
        Check.eq("sessions", p.wire.house.told(6), 2);
        Check.eq("the third", p.ask(Peer.setUp("x", 0)).session(), 3);
    }

    private static void formerSessions() {
        Wire w = new Wire();
        w.share(0, "DATA");
        Peer p = Peer.on(w, 0);
        Peer q = Peer.on(w, 1);
        long f = p.open("f");
        Check.eq("another's name", q.status(Peer.setUp("user1", p.session)), Status.OK);
        Check.eq("does not end it", p.status(Peer.read(f, 0, 0)), Status.OK);
        Check.eq("other letters", q.status(Peer.setUp("USER0", p.session)), Status.OK);
        Check.eq("do not, either", p.status(Peer.read(f, 0, 0)), Status.OK);
        Check.eq("none such", q.status(Peer.setUp("user0", 99)), Status.OK);
        Check.eq("sessions", w.house.told(6), 5);
        Check.eq("the same name, from elsewhere", q.status(Peer.setUp("user0", p.session)), Status.OK);
        Check.eq("ends it", p.status(Peer.read(f, 0, 0)), Status.SESSION_GONE);
        Check.eq("sessions then", w.house.told(6), 5);
        Check.eq("opens then", w.house.told(3), 0);
        Check.eq("trees then", w.house.told(7), 1);
        Check.is("its connection stays", w.house.isOpen(0));
        Check.eq("refused by its name", q.status(Peer.setUp("", 2)), Status.INVALID_PARAMETER);
        Check.eq("nothing ended", w.house.told(6), 5);
    }

    private static void eightSessions() {
        Wire w = new Wire();
        Peer p = Peer.bare(w, 0);
        Peer q = Peer.bare(w, 5);
        for (int i = 1; i <= 8; i++) {
            Check.eq("session", (i % 2 == 0 ? p : q).ask(Peer.setUp("u", 0)).session(), i);
        }
        Check.eq("the ninth", p.status(Peer.setUp("u", 0)), Status.RESOURCES);
        Check.eq("in place of one", p.ask(Peer.setUp("u", 3)).session(), 9);
        Check.eq("still eight", w.house.told(6), 8);
        Check.eq("the ninth again", p.status(Peer.setUp("u", 3)), Status.RESOURCES);
    }

    private static void connectsTrees() {
        Wire w = new Wire();
        w.share(0, "DATA");
        w.share(3, "x$");
        Peer p = Peer.bare(w, 0);
        Check.eq("no session", p.status(Peer.tree("DATA")), Status.SESSION_GONE);
        p.setUp("ann");
        Answer a = p.ask(Peer.tree("dAtA"));
        Check.eq("OK", a.status(), 0);
        Check.eq("the first", a.tree(), 1);
        Check.eq("length", a.length(), 80);
        Check.eq("body", a.n(64, 4), 16 | 1 << 16);
        Check.eq("68", a.n(68, 8), 0);
        Check.eq("76", a.n(76, 4), 0x001F01FF);
        Check.eq("behind the last \\", p.ask(Peer.tree("\\\\data\\X$")).tree(), 2);
        String[] none = {"", "\\", "DATA\\", "DAT", "DATAX", "x$\\y", "D\u0141TA"};
        for (String s : none) {
            Check.eq("no share " + s, p.status(Peer.tree(s)), Status.BAD_SHARE);
        }
        Check.eq("odd", p.status(Peer.tree("DATA").put(70, 2, 7)), Status.INVALID_PARAMETER);
        Check.eq("not within", p.status(Peer.tree("DATA").put(70, 2, 10)), Status.INVALID_PARAMETER);
        Check.eq("no length, anywhere", p.status(Peer.tree("DATA").put(68, 2, 7777).put(70, 2, 0)), Status.BAD_SHARE);
        Check.eq("trees", w.house.told(7), 2);
        p.tree = 2;
        Check.eq("of another session", p.status2(Peer.treeOff(), 9, 2), Status.SESSION_GONE);
        a = p.ask(Peer.treeOff());
        Check.eq("TREE_DISCONNECT", a.status(), 0);
        Check.eq("its length", a.length(), 68);
        Check.eq("its body", a.n(64, 4), 4);
        Check.eq("it is none then", p.status(Peer.treeOff()), Status.TREE_GONE);
        Check.eq("serials go on", p.ask(Peer.tree("DATA")).tree(), 3);
        long first = p.session;
        p.setUp("bob");
        Check.eq("TREE of the other session", p.status2(Peer.treeOff(), p.session, 1), Status.TREE_GONE);
        Check.eq("of the right one", p.status2(Peer.treeOff(), first, 1), Status.OK);
    }

    private static void sixteenTrees() {
        Peer p = Peer.fresh();
        for (int i = 2; i <= 16; i++) {
            Check.eq("tree", p.ask(Peer.tree("DATA")).tree(), i);
        }
        Check.eq("the 17th", p.status(Peer.tree("DATA")), Status.RESOURCES);
        Check.eq("behind BAD_SHARE", p.status(Peer.tree("D")), Status.BAD_SHARE);
        p.ask(Peer.treeOff());
        Check.eq("room again", p.ask(Peer.tree("DATA")).tree(), 17);
    }

    private static void logsOff() {
        Peer p = Peer.fresh();
        p.open("f");
        p.connectTree("DATA");
        p.open("g");
        Check.eq("size", p.status(Peer.logOff().put(64, 2, 3)), Status.INVALID_PARAMETER);
        Check.eq("length", p.status(Peer.logOff().length(67)), Status.INVALID_PARAMETER);
        Answer a = p.ask(Peer.logOff());
        Check.eq("OK", a.status(), 0);
        Check.eq("answer", a.length(), 68);
        Check.eq("body", a.n(64, 4), 4);
        Check.eq("sessions", p.wire.house.told(6), 0);
        Check.eq("trees", p.wire.house.told(7), 0);
        Check.eq("opens", p.wire.house.told(3), 0);
        Check.eq("records came", p.wire.house.told(1), 0);
        Check.eq("again", p.status(Peer.logOff()), Status.SESSION_GONE);
        Check.eq("serials go on", p.ask(Peer.setUp("x", 0)).session(), 2);
    }

    private static void hangs() {
        Wire w = new Wire();
        w.share(0, "DATA");
        Peer p = Peer.on(w, 0);
        Peer q = Peer.on(w, 1);
        long f = p.open("f");
        long g = q.open("f");
        p.ask(Peer.lock(f, 0, 10, 2));
        Check.eq("waits", q.status(Peer.lock(g, 5, 1, 2)), Status.PENDING);
        Check.eq("one waits", w.house.told(5), 1);
        Check.is("hang", w.house.hang(0));
        List<Answer> news = q.news();
        Check.eq("the lock is there", news.size(), 1);
        Check.eq("OK", news.get(0).status(), 0);
        Check.eq("none waits", w.house.told(5), 0);
        Check.eq("its sessions ended", w.house.told(6), 1);
        Check.eq("opens", w.house.told(3), 1);
        // what waits of one that hangs is given up
        Peer r = Peer.on(w, 2);
        long h = r.open("f");
        Check.eq("waits again", r.status(Peer.lock(h, 5, 1, 2)), Status.PENDING);
        w.house.hang(2);
        Check.eq("given up", w.house.told(5), 0);
        Check.eq("without answer", w.house.outs(2), 0);
        Check.eq("locks", w.house.told(4), 1);
    }

    /** Opens of a session are closed tree by tree, not by their own serials alone. */
    private static void endsInOrder() {
        Wire w = new Wire();
        w.share(0, "DATA");
        Peer p = Peer.on(w, 0);
        long second = p.ask(Peer.tree("DATA")).tree();
        long first = p.tree;
        p.tree = second;
        p.open("a", 9);
        p.tree = first;
        p.open("b", 9);
        Peer q = Peer.on(w, 1);
        Check.eq("for a", q.status(Peer.create("a", Peer.ALL, 7, 1, 0, 0)), Status.PENDING);
        Check.eq("for b", q.status(Peer.create("b", Peer.ALL, 7, 1, 0, 0)), Status.PENDING);
        w.answers(0);
        p.ask(Peer.logOff());
        List<Answer> news = q.news();
        Check.eq("both opened", news.size(), 2);
        Check.eq("the tree with the lower serial first", news.get(0).async(), 2);
        Check.eq("then the other", news.get(1).async(), 1);
        Check.eq("serials by that order", news.get(0).n(128, 8), 3);
        Check.eq("and the next", news.get(1).n(128, 8), 4);
    }

    private static void echoes() {
        Peer p = Peer.bare(new Wire(), 4);
        p.session = 0x0102030405060708L;
        p.tree = 0x01020304;
        Answer a = p.ask(Peer.echo());
        Check.eq("OK", a.status(), 0);
        Check.eq("length", a.length(), 68);
        Check.eq("body", a.n(64, 4), 4);
        Check.eq("SESSION as asked", a.session(), p.session);
        Check.eq("TREE as asked", a.tree(), p.tree);
        Check.eq("another size", p.status(Peer.echo().put(64, 2, 5)), Status.INVALID_PARAMETER);
        Check.eq("no body", p.status(Peer.echo().length(66)), Status.INVALID_PARAMETER);
    }
}
