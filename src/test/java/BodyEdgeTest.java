import java.util.List;

/** Part 2: SESSION, TREE, body, FILE, in this order; what stands somewhere. */
public final class BodyEdgeTest {
    private static final int ALL = Peer.ALL;
    /** COMMAND, the size that its body tells, where its FILE stands (0: none). */
    private static final int[][] BODIES = {{1, 25, 0}, {2, 4, 0}, {3, 9, 0}, {4, 4, 0}, {5, 57, 0}, {6, 24, 72}, {7, 24, 72},
        {8, 49, 80}, {9, 49, 80}, {10, 48, 72}, {13, 4, 0}, {14, 33, 72}, {16, 41, 88}, {17, 33, 80}, {18, 24, 72}};

    private BodyEdgeTest() {
    }

    public static void main(String[] args) {
        sessionOfThisConnection();
        sessionIsFirst();
        treeOfTheSession();
        treeIsSecond();
        commandsThatAreNone();
        bodiesAsLongAsTheySay();
        bodiesThatSayTheirSize();
        bodyIsAheadOfFile();
        fileIsTwoNumbers();
        fileOfThisSessionAndTree();
        fileThatIsClosed();
        whereAUserIs();
        whereASharesPathIs();
        whereAPathIs();
        whereBytesAre();
        whereAPatternIs();
        whereInfoIs();
        notInTheNextRequest();
        farFromTheHeader();
        Check.end("BodyEdgeTest");
    }

    /** A request of a command that fits but for what is told of nothing. */
    private static Req request(int[] body) {
        Req r = Req.of(body[0], body[1]);
        switch (body[0]) {
            case 1: return Peer.setUp("u", 0);
            case 3: return Peer.tree("DATA");
            case 5: return Peer.create("f", ALL, 7, 3, 0, 0);
            case 6: return Peer.close(1);
            case 7: return Peer.flush(1);
            case 8: return Peer.read(1, 0, 0);
            case 9: return Peer.write(1, 0, "");
            case 10: return Peer.lock(1, 0, 0, 0x11);
            case 14: return Peer.list(2, 12, 0, "", 100);
            case 16: return Peer.info(1, 1, 5, 24);
            case 17: return Peer.setToGo(1, 0);
            case 18: return Peer.answerBreak(1, 0);
            default: return r;
        }
    }

    /** What each answers when nothing is wrong. */
    private static int due(int command) {
        return command == 18 ? Status.OPLOCK_PROTOCOL : Status.OK;
    }

    /** Open 1 is of a file, open 2 of the root. */
    private static Peer begun() {
        Peer p = Peer.fresh();
        p.open("f");
        p.openDirectory("");
        return p;
    }

    private static boolean needsSession(int command) {
        return command != 0 && command != 1 && command != 12 && command != 13;
    }

    private static boolean needsTree(int command) {
        return needsSession(command) && command != 2 && command != 3;
    }

    /** "SESSION must be one of this connection (SESSION_GONE)". */
    private static void sessionOfThisConnection() {
        for (int[] body : BODIES) {
            Peer p = begun();
            Peer q = Peer.on(p.wire, 1);
            long[] none = {0, q.session, 99, p.session | 1L << 32, -1L};
            for (long session : none) {
                int due = needsSession(body[0]) ? Status.SESSION_GONE : due(body[0]);
                Check.eq(body[0] + " of session " + session, p.status2(request(body), session, p.tree), due);
            }
            Check.eq(body[0] + " of its own", p.status(request(body)), due(body[0]));
        }
    }

    /** SESSION_GONE stands ahead of all others. */
    private static void sessionIsFirst() {
        for (int[] body : BODIES) {
            if (needsSession(body[0])) {
                Peer p = begun();
                Check.eq(body[0] + " first", p.status2(new Req(body[0]), 99, 99), Status.SESSION_GONE);
            }
        }
    }

    /** "TREE one of it (TREE_GONE)". */
    private static void treeOfTheSession() {
        for (int[] body : BODIES) {
            Peer p = begun();
            Peer q = Peer.on(p.wire, 1);
            long first = p.session;
            p.setUp("second");
            long second = p.session;
            p.session = first;
            long[] none = {0, q.tree, 99, 0xFFFFFFFFL};
            int due = needsTree(body[0]) ? Status.TREE_GONE : due(body[0]);
            for (long tree : none) {
                if (body[0] != 2) {
                    Check.eq(body[0] + " of tree " + tree, p.status2(request(body), p.session, tree), due);
                }
            }
            Check.eq(body[0] + " of another session", p.status2(request(body), second, p.tree), due);
        }
    }

    private static void treeIsSecond() {
        for (int[] body : BODIES) {
            if (needsTree(body[0])) {
                Peer p = begun();
                Check.eq(body[0] + " second", p.status2(new Req(body[0]), p.session, 99), Status.TREE_GONE);
            }
        }
    }

    /** "COMMANDS 11, 15, above 18: NOT_SUPPORTED (behind SESSION and TREE)." */
    private static void commandsThatAreNone() {
        int[] none = {11, 15, 19, 20, 256, 256 + 13, 0xFFFF};
        Peer p = begun();
        for (int command : none) {
            Check.eq("command " + command, p.status(new Req(command).length(100)), Status.NOT_SUPPORTED);
            Check.eq("without body " + command, p.status(new Req(command)), Status.NOT_SUPPORTED);
            Check.eq("behind SESSION " + command, p.status2(new Req(command), 99, p.tree), Status.SESSION_GONE);
            Check.eq("behind TREE " + command, p.status2(new Req(command), p.session, 99), Status.TREE_GONE);
        }
        Check.eq("18 is one", p.status(new Req(18)), Status.INVALID_PARAMETER);
    }

    /** "as long at least as its size says (of odd ones one byte less)". */
    private static void bodiesAsLongAsTheySay() {
        for (int[] body : BODIES) {
            int least = 64 + body[1] - body[1] % 2;
            Peer p = begun();
            int[] lengths = {64, 65, 66, least - 1};
            for (int length : lengths) {
                Check.eq(body[0] + " of " + length, p.status(request(body).length(length)), Status.INVALID_PARAMETER);
            }
            Req just = request(body);
            if (just.size() > least) {
                just.put(body[0] == 1 ? 78 : body[0] == 3 ? 70 : body[0] == 5 ? 110 : 68, body[0] == 17 ? 4 : 2, 0);
            }
            int due = body[0] == 1 ? Status.INVALID_PARAMETER : body[0] == 3 ? Status.BAD_SHARE
                    : body[0] == 17 ? Status.INFO_LENGTH : due(body[0]);
            Check.eq(body[0] + " of just " + least, p.status(just.length(least)), due);
        }
        Wire w = new Wire();
        w.house.connect(0);
        Peer p = new Peer(w, 0);
        Check.eq("NEGOTIATE of 99", p.status(Peer.negotiate().length(99)), Status.INVALID_PARAMETER);
        Check.eq("NEGOTIATE of 100 has no dialects", p.status(Peer.negotiate().length(100)), Status.INVALID_PARAMETER);
        Check.eq("NEGOTIATE of 102", p.status(Peer.negotiate().length(102)), Status.OK);
    }

    /** "its first (2) being that size". */
    private static void bodiesThatSayTheirSize() {
        for (int[] body : BODIES) {
            Peer p = begun();
            int[] sizes = {0, body[1] - 1, body[1] + 1, body[1] + 256, 0xFFFF};
            for (int size : sizes) {
                Check.eq(body[0] + " says " + size, p.status(request(body).put(64, 2, size)), Status.INVALID_PARAMETER);
            }
            Check.eq(body[0] + " says " + body[1], p.status(request(body)), due(body[0]));
        }
        int[] sizes = {0, 35, 37, 36 + 256};
        for (int size : sizes) {
            Wire w = new Wire();
            w.house.connect(0);
            Check.eq("NEGOTIATE says " + size, new Peer(w, 0).status(Peer.negotiate().put(64, 2, size)),
                    Status.INVALID_PARAMETER);
        }
    }

    private static void bodyIsAheadOfFile() {
        for (int[] body : BODIES) {
            if (body[2] != 0) {
                Peer p = begun();
                Req wrong = request(body).file(body[2], 77);
                Check.eq(body[0] + ": the body", p.status(wrong.copy().put(64, 2, 1)), Status.INVALID_PARAMETER);
                Check.eq(body[0] + ": then FILE", p.status(wrong), Status.FILE_CLOSED);
            }
        }
    }

    /** "a FILE (16: two numbers of 8, both its serial)". */
    private static void fileIsTwoNumbers() {
        for (int[] body : BODIES) {
            if (body[2] != 0) {
                Peer p = begun();
                long file = body[0] == 14 ? 2 : 1;
                Check.eq(body[0] + ": the first", p.status(request(body).put(body[2], 8, 3 - file)), Status.FILE_CLOSED);
                Check.eq(body[0] + ": the second", p.status(request(body).put(body[2] + 8, 8, 3 - file)),
                        Status.FILE_CLOSED);
                Check.eq(body[0] + ": all bytes of it", p.status(request(body).put(body[2] + 15, 1, 1)),
                        Status.FILE_CLOSED);
                Check.eq(body[0] + ": 0", p.status(request(body).file(body[2], 0)), Status.FILE_CLOSED);
                Check.eq(body[0] + ": 255s, not RELATED", p.status(request(body).file(body[2], -1L)),
                        Status.FILE_CLOSED);
                Check.eq(body[0] + ": both", p.status(request(body)), due(body[0]));
            }
        }
    }

    /** "one that was opened by this session and tree". */
    private static void fileOfThisSessionAndTree() {
        for (int[] body : BODIES) {
            if (body[2] != 0) {
                Peer p = begun();
                Peer q = Peer.on(p.wire, 1);
                Check.eq(body[0] + ": of another session", q.status(request(body)), Status.FILE_CLOSED);
                long first = p.tree;
                p.connectTree("DATA");
                Check.eq(body[0] + ": of another tree", p.status(request(body)), Status.FILE_CLOSED);
                p.tree = first;
                Check.eq(body[0] + ": of its own", p.status(request(body)), due(body[0]));
            }
        }
    }

    /** "and not closed (FILE_CLOSED)". */
    private static void fileThatIsClosed() {
        for (int[] body : BODIES) {
            if (body[2] != 0) {
                Peer p = begun();
                p.ask(Peer.close(1));
                p.ask(Peer.close(2));
                Check.eq(body[0] + ": closed", p.status(request(body)), Status.FILE_CLOSED);
            }
        }
    }

    // ---- "what it tells to stand somewhere lies within the REQUEST, behind the HEADER (INVALID_PARAMETER)";
    // "What stands somewhere and has no bytes may be anywhere."

    private static void whereAUserIs() {
        Peer p = Peer.bare(new Wire(), 0);
        Req r = Req.of(1, 25).put(66, 1, 'u').put(80, 8, 0).put(78, 2, 1);
        Check.eq("in the body", p.status(r.copy().put(76, 2, 66)), Status.OK);
        Check.eq("in the HEADER", p.status(r.copy().put(63, 1, 'u').put(76, 2, 63)), Status.INVALID_PARAMETER);
        Check.eq("its last byte", p.status(r.copy().put(87, 1, 'u').put(76, 2, 87)), Status.OK);
        Check.eq("behind it", p.status(r.copy().put(76, 2, 88)), Status.INVALID_PARAMETER);
        Check.eq("far behind", p.status(r.copy().put(76, 2, 0xFFFF)), Status.INVALID_PARAMETER);
        Check.eq("64", p.status(r.copy().put(64, 2, 25).put(76, 2, 64)), Status.INVALID_PARAMETER);
        Check.eq("no name, wherever", p.status(r.copy().put(76, 2, 66).put(78, 2, 0)), Status.INVALID_PARAMETER);
        Check.eq("sessions", p.wire.house.told(6), 2);
    }

    private static void whereASharesPathIs() {
        Wire w = new Wire();
        w.share(0, "D");
        Peer p = Peer.bare(w, 0);
        p.setUp("u");
        Req r = Req.of(3, 9).units(66, "D").put(70, 2, 2);
        Check.eq("in the body", p.status(r.copy().put(68, 2, 66)), Status.OK);
        Check.eq("in the HEADER", p.status(r.copy().put(68, 2, 62)), Status.INVALID_PARAMETER);
        Check.eq("half in it", p.status(r.copy().put(68, 2, 63)), Status.INVALID_PARAMETER);
        Check.eq("64: no share's name", p.status(r.copy().put(68, 2, 64)), Status.BAD_SHARE);
        Req longer = r.copy().units(72, "D");
        Check.eq("its last bytes", p.status(longer.copy().put(68, 2, 72)), Status.OK);
        Check.eq("one behind", p.status(longer.copy().put(68, 2, 73)), Status.INVALID_PARAMETER);
        Check.eq("an odd length, not within", p.status(longer.copy().put(68, 2, 72).put(70, 2, 3)),
                Status.INVALID_PARAMETER);
        Check.eq("longer by 256", p.status(r.copy().put(68, 2, 66).put(70, 2, 258)), Status.INVALID_PARAMETER);
        Check.eq("none, anywhere", p.status(r.copy().put(68, 2, 0).put(70, 2, 0)), Status.BAD_SHARE);
        Check.eq("none, far behind", p.status(r.copy().put(68, 2, 0xFFFF).put(70, 2, 0)), Status.BAD_SHARE);
    }

    private static void whereAPathIs() {
        Peer p = Peer.fresh();
        Req r = Peer.shortCreate("f", ALL, 7, 3, 0, 0);
        Check.eq("in the body", p.status(r.copy()), Status.OK);
        Check.eq("in the HEADER", p.status(r.copy().put(108, 2, 62)), Status.INVALID_PARAMETER);
        Check.eq("half in it", p.status(r.copy().put(108, 2, 63)), Status.INVALID_PARAMETER);
        Check.eq("at 64", p.status(r.copy().put(108, 2, 64)), Status.OK);
        Check.eq("its last bytes", p.status(r.copy().units(118, "f").put(108, 2, 118)), Status.OK);
        Check.eq("one behind", p.status(r.copy().units(118, "f").put(108, 2, 119)), Status.INVALID_PARAMETER);
        Check.eq("ahead of NAME_INVALID", p.status(r.copy().put(110, 2, 0xFFFF)), Status.INVALID_PARAMETER);
        Check.eq("longer by 256", p.status(r.copy().put(110, 2, 258)), Status.INVALID_PARAMETER);
        Check.eq("none, anywhere", p.status(r.copy().put(108, 2, 0).put(110, 2, 0)), Status.OK);
        Check.eq("none, far behind", p.status(r.copy().put(108, 2, 0xFFFF).put(110, 2, 0)), Status.OK);
        // at 64 stands the body's size, 57 or 9: a file of this name was made
        Check.eq("nodes", p.wire.house.told(2), 3);
    }

    private static void whereBytesAre() {
        Peer p = begun();
        Req r = Peer.write(1, 0, "abc");
        Check.eq("behind the body", p.status(r.copy()), Status.OK);
        Check.eq("in the HEADER", p.status(r.copy().put(66, 2, 63)), Status.INVALID_PARAMETER);
        Check.eq("at 64", p.status(r.copy().put(66, 2, 64)), Status.OK);
        Check.eq("these", p.ask(Peer.read(1, 0, 3)).n(80, 3), 49 | 64 << 16);
        Check.eq("one behind", p.status(r.copy().put(66, 2, 113)), Status.INVALID_PARAMETER);
        Check.eq("one more", p.status(r.copy().put(68, 4, 4)), Status.INVALID_PARAMETER);
        Check.eq("without sign", p.status(r.copy().put(68, 4, 0xFFFFFFFFL)), Status.INVALID_PARAMETER);
        Check.eq("that wraps around", p.status(r.copy().put(66, 2, 112).put(68, 4, 0x80000001L)),
                Status.INVALID_PARAMETER);
        Check.eq("ahead of FILE", p.status(r.copy().put(68, 4, 4).file(80, 77)), Status.INVALID_PARAMETER);
        Check.eq("none, anywhere", p.status(r.copy().put(66, 2, 0).put(68, 4, 0)), Status.OK);
        Check.eq("none, far behind", p.status(r.copy().put(66, 2, 0xFFFF).put(68, 4, 0)), Status.OK);
    }

    private static void whereAPatternIs() {
        Peer p = begun();
        Req r = Peer.list(2, 12, 1, "f", 100);
        Check.eq("behind the body", p.status(r.copy()), Status.OK);
        Check.eq("in the HEADER", p.status(r.copy().put(88, 2, 62)), Status.INVALID_PARAMETER);
        Check.eq("half in it", p.status(r.copy().put(88, 2, 63)), Status.INVALID_PARAMETER);
        Check.eq("at 64", p.status(r.copy().put(88, 2, 64)), Status.NO_SUCH_FILE);
        Check.eq("one behind", p.status(r.copy().put(88, 2, 97)), Status.INVALID_PARAMETER);
        Check.eq("ahead of NAME_INVALID", p.status(r.copy().put(90, 2, 99)), Status.INVALID_PARAMETER);
        Check.eq("longer by 256", p.status(r.copy().put(90, 2, 258)), Status.INVALID_PARAMETER);
        Check.eq("ahead of FILE", p.status(r.copy().put(88, 2, 97).file(72, 77)), Status.INVALID_PARAMETER);
        Check.eq("not the first time: within all the same", p.status(r.copy().put(67, 1, 0).put(88, 2, 97)),
                Status.INVALID_PARAMETER);
        Check.eq("none, anywhere", p.status(r.copy().put(88, 2, 0).put(90, 2, 0)), Status.OK);
        Check.eq("none, far behind", p.status(r.copy().put(88, 2, 0xFFFF).put(90, 2, 0)), Status.OK);
    }

    private static void whereInfoIs() {
        Peer p = begun();
        Req r = Peer.setSize(1, 5);
        Check.eq("behind the body", p.status(r.copy()), Status.OK);
        Check.eq("in the HEADER", p.status(r.copy().put(72, 2, 63)), Status.INVALID_PARAMETER);
        Check.eq("at 64: a SIZE far above", p.status(r.copy().put(72, 2, 64)), Status.DISK_FULL);
        Check.eq("one behind", p.status(r.copy().put(72, 2, 97)), Status.INVALID_PARAMETER);
        Check.eq("one more", p.status(r.copy().put(68, 4, 9)), Status.INVALID_PARAMETER);
        Check.eq("without sign", p.status(r.copy().put(68, 4, 0xFFFFFFFFL)), Status.INVALID_PARAMETER);
        Check.eq("that wraps around", p.status(r.copy().put(68, 4, 0xFFFFFFA0L)), Status.INVALID_PARAMETER);
        Check.eq("longer by 2^24", p.status(r.copy().put(68, 4, 0x01000008)), Status.INVALID_PARAMETER);
        Check.eq("ahead of FILE", p.status(r.copy().put(68, 4, 9).file(80, 77)), Status.INVALID_PARAMETER);
        Check.eq("ahead of the class", p.status(r.copy().put(68, 4, 9).put(67, 1, 99)), Status.INVALID_PARAMETER);
        Check.eq("none, anywhere", p.status(r.copy().put(72, 2, 0).put(68, 4, 0)), Status.INFO_LENGTH);
        Check.eq("none, far behind", p.status(r.copy().put(72, 2, 0xFFFF).put(68, 4, 0)), Status.INFO_LENGTH);
        Check.eq("SIZE", p.ask(Peer.info(1, 1, 5, 24)).n(80, 8), 5);
    }

    /** Where has 2 bytes: what is asked stands at 300. */
    private static void farFromTheHeader() {
        Peer p = begun();
        p.setUp("first");
        Check.eq("a user", p.status(Req.of(1, 25).put(300, 1, 'u').put(76, 2, 300).put(78, 2, 1).put(80, 8, 0)), Status.OK);
        p.session = 1;
        // the name that it was set up with is u: so it is ended by that
        Check.eq("sessions", p.wire.house.told(6), 3);
        p.ask(Peer.setUp("u", 3));
        Check.eq("it ended", p.wire.house.told(6), 3);
        Check.eq("a share's path", p.status(Req.of(3, 9).textAt(68, 70, 300, "DATA")), Status.OK);
        Req create = Peer.create("", ALL, 7, 2, 0, 0).textAt(108, 110, 300, "far");
        Check.eq("a path", p.status(create), Status.OK);
        Check.eq("its name", p.status(Peer.create("FAR", ALL, 7, 1, 0, 0)), Status.OK);
        p.ask(Peer.write(1, 0, "").put(300, 1, '!').put(66, 2, 300).put(68, 4, 1));
        Check.eq("bytes", p.ask(Peer.read(1, 0, 1)).n(80, 1), '!');
        Answer a = p.ask(Peer.list(2, 12, 1, "", 100).textAt(88, 90, 300, "far"));
        Check.eq("a pattern", a.n(80, 4), 6);
        p.ask(Peer.set(1, 20, bytesOf(8)).put(300, 8, 77).put(72, 2, 300));
        Check.eq("info", p.ask(Peer.info(1, 1, 5, 24)).n(80, 8), 77);
    }

    private static byte[] bytesOf(int many) {
        return new byte[many];
    }

    /** "It ends where the next one begins, or the message ends." */
    private static void notInTheNextRequest() {
        Peer p = begun();
        Req[] of = {Peer.write(1, 0, "abcdefgh").put(68, 4, 9), Peer.setSize(1, 5).put(68, 4, 9),
            Peer.create("abcd", ALL, 7, 3, 0, 0).put(110, 2, 10), Peer.list(2, 12, 1, "abcd", 100).put(90, 2, 10),
            Peer.tree("DATA").put(70, 2, 10), Peer.lock(1, 0, 1, 0x12).put(66, 2, 2)};
        for (Req r : of) {
            List<Answer> all = p.askAll(r, Peer.echo());
            Check.eq("not of the next one", all.get(0).status(), Status.INVALID_PARAMETER);
            Check.eq("the next one", all.get(1).status(), Status.OK);
        }
        Wire w = new Wire();
        w.house.connect(0);
        Peer q = new Peer(w, 0);
        List<Answer> all = q.askAll(Peer.negotiate().put(66, 2, 3).length(104), Peer.negotiate());
        Check.eq("dialects of the next one", all.get(0).status(), Status.INVALID_PARAMETER);
    }
}
