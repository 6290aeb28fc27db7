/**
 * Parts 2 to 7: each answer, byte by byte: what is told stands where it is told, and "what is not told is .. 0 in
 * answers", whatever was answered before.
 */
public final class ShapeTest {
    private static final int ALL = Peer.ALL;

    /** An answer as it is due: 0s but for what is put. */
    private static final class Due {
        private byte[] bytes;

        Due(Peer p, int command, int length) {
            bytes = new byte[length];
            put(0, 4, 0x424D53FEL).put(4, 2, 64).put(6, 2, 0x1234).put(12, 2, command).put(14, 2, 1).put(16, 4, 1)
                    .put(24, 8, p.nextId).put(32, 4, 0x89ABCDEFL).put(36, 4, p.tree).put(40, 8, p.session);
        }

        Due put(int at, int many, long value) {
            for (int i = 0; i < many; i++) {
                bytes[at + i] = (byte) (value >> (8 * i));
            }
            return this;
        }

        Due times(int at, long made, long looked, long written, long changed) {
            return put(at, 8, made).put(at + 8, 8, looked).put(at + 16, 8, written).put(at + 24, 8, changed);
        }

        Due units(int at, String text) {
            for (int i = 0; i < text.length(); i++) {
                put(at + 2 * i, 2, text.charAt(i));
            }
            return this;
        }
    }

    private ShapeTest() {
    }

    public static void main(String[] args) {
        negotiate();
        sessionsAndTrees();
        opens();
        closes();
        bytesOfFiles();
        locksAndEchoes();
        lists();
        queries();
        sets();
        breaksAndLaterAnswers();
        errors();
        Check.end("ShapeTest");
    }

    private static void same(String what, byte[] got, byte[] due) {
        Check.eq(what + ": length", got.length, due.length);
        for (int i = 0; i < due.length && i < got.length; i++) {
            Check.eq(what + ": byte " + i, got[i] & 255, due[i] & 255);
        }
    }

    private static Req marked(Req r) {
        return r.put(6, 2, 0x1234).put(32, 4, 0x89ABCDEFL);
    }

    /** Asks, with noise answered before, so that nothing of it may be left. */
    private static void asks(String what, Peer p, Req r, Due due) {
        same(what, p.ask(marked(r)).bytes, due.bytes);
    }

    /** A peer whose open 1 is of a file of 1024 bytes, none of them 0, which were answered last. */
    private static Peer noisy() {
        Peer p = Peer.fresh();
        p.wire.house.tick(7);
        p.open("noise");
        p.ask(Peer.write(1, 0, "~".repeat(1024)));
        p.ask(Peer.read(1, 0, 1024));
        return p;
    }

    private static void negotiate() {
        Wire w = new Wire();
        w.house.tick(1000000);
        w.house.connect(0);
        Peer p = new Peer(w, 0);
        asks("NEGOTIATE", p, Peer.negotiate().credits(1), new Due(p, 0, 129).put(64, 2, 65).put(66, 2, 1).put(68, 2, 0x0202)
                .put(92, 4, 1024).put(96, 4, 1024).put(100, 4, 1024).put(104, 8, 1000000).put(120, 2, 128));
    }

    private static void sessionsAndTrees() {
        Peer p = noisy();
        asks("SESSION_SETUP", p, Peer.setUp("u", 0), new Due(p, 1, 73).put(40, 8, 2).put(64, 2, 9).put(68, 2, 72));
        p.ask(Peer.read(1, 0, 1024));
        asks("TREE_CONNECT", p, Peer.tree("DATA"),
                new Due(p, 3, 80).put(36, 4, 2).put(64, 2, 16).put(66, 1, 1).put(76, 4, 0x001F01FF));
        p.ask(Peer.read(1, 0, 1024));
        p.tree = 2;
        asks("TREE_DISCONNECT", p, Peer.treeOff(), new Due(p, 4, 68).put(64, 2, 4));
        p.tree = 1;
        p.ask(Peer.read(1, 0, 1024));
        asks("LOGOFF", p, Peer.logOff(), new Due(p, 2, 68).put(64, 2, 4));
    }

    private static void opens() {
        Peer p = noisy();
        asks("CREATE", p, Peer.create("f", ALL, 7, 3, 0, 9).put(92, 4, 2), new Due(p, 5, 152).put(64, 2, 89).put(66, 1, 9)
                .put(68, 4, 2).times(72, 7, 7, 7, 7).put(120, 4, 34).put(128, 8, 2).put(136, 8, 2));
        p.ask(Peer.read(1, 0, 1024));
        asks("CREATE of what is there", p, Peer.create("noise", ALL, 7, 1, 0, 0), new Due(p, 5, 152).put(64, 2, 89)
                .put(68, 4, 1).times(72, 7, 7, 7, 7).put(104, 8, 1024).put(112, 8, 1024).put(120, 4, 32).put(128, 8, 3)
                .put(136, 8, 3));
        asks("CREATE of a directory", p, Peer.create("", ALL, 7, 1, 0, 0), new Due(p, 5, 152).put(64, 2, 89).put(68, 4, 1)
                .put(120, 4, 16).put(128, 8, 4).put(136, 8, 4));
    }

    private static void closes() {
        Peer p = noisy();
        p.open("f");
        p.open("f");
        p.ask(Peer.setValues(2, 11, 12, 13, 14, 2));
        p.ask(Peer.read(1, 0, 1024));
        asks("CLOSE", p, Peer.close(2).put(66, 2, 0xFFFE), new Due(p, 6, 124).put(64, 2, 60));
        p.ask(Peer.read(1, 0, 1024));
        asks("CLOSE with 1", p, Peer.close(3).put(66, 2, 0xFFFF),
                new Due(p, 6, 124).put(64, 2, 60).put(66, 2, 1).times(72, 11, 12, 13, 14).put(120, 4, 2));
        asks("FLUSH", p, Peer.flush(1), new Due(p, 7, 68).put(64, 2, 4));
    }

    private static void bytesOfFiles() {
        Peer p = noisy();
        asks("READ", p, Peer.read(1, 1020, 9), new Due(p, 8, 84).put(64, 2, 17).put(66, 1, 80).put(68, 4, 4)
                .put(80, 4, 0x7E7E7E7EL));
        p.ask(Peer.read(1, 0, 1024));
        asks("READ of none", p, Peer.read(1, 0, 0), new Due(p, 8, 81).put(64, 2, 17).put(66, 1, 80));
        p.ask(Peer.read(1, 0, 1024));
        asks("WRITE", p, Peer.write(1, 0, "abc"), new Due(p, 9, 81).put(64, 2, 17).put(68, 4, 3));
        p.ask(Peer.read(1, 0, 1024));
        asks("WRITE of none", p, Peer.write(1, 0, ""), new Due(p, 9, 81).put(64, 2, 17));
    }

    private static void locksAndEchoes() {
        Peer p = noisy();
        asks("LOCK", p, Peer.lock(1, 0, 1, 2), new Due(p, 10, 68).put(64, 2, 4));
        p.ask(Peer.read(1, 0, 1024));
        asks("UNLOCK", p, Peer.lock(1, 0, 1, 4), new Due(p, 10, 68).put(64, 2, 4));
        p.ask(Peer.read(1, 0, 1024));
        asks("ECHO", p, Peer.echo(), new Due(p, 13, 68).put(64, 2, 4));
    }

    private static void lists() {
        Peer p = noisy();
        p.openDirectory("");
        p.ask(Peer.setValues(1, 21, 22, 23, 24, 3));
        p.ask(Peer.read(1, 0, 1024));
        asks("QUERY_DIRECTORY, class 1", p, Peer.list(2, 1, 0, "", 1024), new Due(p, 14, 72 + 72 + 72 + 74)
                .put(64, 2, 9).put(66, 2, 72).put(68, 4, 218)
                .put(72, 4, 72).put(128, 4, 16).put(132, 4, 2).units(136, ".")
                .put(144, 4, 72).put(200, 4, 16).put(204, 4, 4).units(208, "..")
                .times(224, 21, 22, 23, 24).put(256, 8, 1024).put(264, 8, 1024).put(272, 4, 3).put(276, 4, 10)
                .units(280, "noise"));
        p.ask(Peer.read(1, 0, 1024));
        asks("QUERY_DIRECTORY, class 12", p, Peer.list(2, 12, 1, "", 1024), new Due(p, 14, 72 + 16 + 16 + 22)
                .put(64, 2, 9).put(66, 2, 72).put(68, 4, 54)
                .put(72, 4, 16).put(80, 4, 2).units(84, ".").put(88, 4, 16).put(96, 4, 4).units(100, "..")
                .put(112, 4, 10).units(116, "noise"));
    }

    private static void queries() {
        Peer p = noisy();
        p.ask(Peer.create("noise", 0x80, 7, 1, 0, 0));
        p.ask(Peer.setValues(1, 21, 22, 23, 24, 4));
        p.ask(Peer.read(1, 0, 1024));
        Due four = new Due(p, 16, 112).put(64, 2, 9).put(66, 2, 72).put(68, 4, 40).times(72, 21, 22, 23, 24).put(104, 4, 4);
        asks("QUERY_INFO 4", p, Peer.info(2, 1, 4, 40), four);
        p.ask(Peer.read(1, 0, 1024));
        Due five = new Due(p, 16, 96).put(64, 2, 9).put(66, 2, 72).put(68, 4, 24).put(72, 8, 1024).put(80, 8, 1024)
                .put(88, 4, 1);
        asks("QUERY_INFO 5", p, Peer.info(2, 1, 5, 24), five);
        p.ask(Peer.read(1, 0, 1024));
        asks("QUERY_INFO 18", p, Peer.info(2, 1, 18, 80), new Due(p, 16, 152).put(64, 2, 9).put(66, 2, 72).put(68, 4, 80)
                .times(72, 21, 22, 23, 24).put(104, 4, 4).put(112, 8, 1024).put(120, 8, 1024).put(128, 4, 1).put(136, 8, 1)
                .put(148, 4, 0x80));
        p.ask(Peer.read(1, 0, 1024));
        asks("QUERY_INFO of nodes", p, Peer.info(2, 2, 3, 24), new Due(p, 16, 96).put(64, 2, 9).put(66, 2, 72).put(68, 4, 24)
                .put(72, 8, 80).put(80, 8, 78).put(88, 4, 1).put(92, 4, 512));
    }

    private static void sets() {
        Peer p = noisy();
        asks("SET_INFO 4", p, Peer.setValues(1, 1, 1, 1, 1, 2), new Due(p, 17, 66).put(64, 2, 2));
        p.ask(Peer.read(1, 0, 1024));
        asks("SET_INFO 20", p, Peer.setSize(1, 1024), new Due(p, 17, 66).put(64, 2, 2));
        p.ask(Peer.read(1, 0, 1024));
        asks("SET_INFO 13", p, Peer.setToGo(1, 0), new Due(p, 17, 66).put(64, 2, 2));
        p.ask(Peer.read(1, 0, 1024));
        asks("SET_INFO 10", p, Peer.rename(1, 0, "loud"), new Due(p, 17, 66).put(64, 2, 2));
    }

    private static void breaksAndLaterAnswers() {
        Peer p = noisy();
        Peer q = Peer.on(p.wire, 1);
        p.open("f", 9);
        q.open("g");
        q.ask(Peer.write(3, 0, "~".repeat(1024)));
        q.ask(Peer.read(3, 0, 1024));
        Due pending = new Due(q, 5, 73).put(8, 4, Status.PENDING).put(16, 4, 3).put(32, 8, 1).put(64, 2, 9);
        Due opened = new Due(q, 5, 152).put(14, 2, 0).put(16, 4, 3).put(32, 8, 1).put(64, 2, 89).put(66, 1, 1)
                .put(68, 4, 1).times(72, 7, 7, 7, 7).put(120, 4, 32).put(128, 8, 4).put(136, 8, 4);
        asks("PENDING", q, Peer.create("f", ALL, 7, 1, 0, 8), pending);
        Due broken = new Due(p, 18, 88).put(6, 2, 0).put(14, 2, 0).put(24, 8, -1L).put(32, 8, 0).put(40, 8, 0).put(64, 2, 24)
                .put(66, 1, 1).put(72, 8, 2).put(80, 8, 2);
        same("a BREAK", p.news().get(0).bytes, broken.bytes);
        p.ask(Peer.read(1, 0, 1024));
        asks("OPLOCK_BREAK", p, Peer.answerBreak(2, 1), new Due(p, 18, 88).put(64, 2, 24).put(66, 1, 1).put(72, 8, 2)
                .put(80, 8, 2));
        same("CREATE, later", q.news().get(0).bytes, opened.bytes);
        q.ask(Peer.lock(3, 0, 1, 2));
        Due granted = new Due(q, 10, 68).put(14, 2, 0).put(16, 4, 3).put(32, 8, 2).put(64, 2, 4);
        q.ask(marked(Peer.lock(3, 0, 1, 1)));
        q.ask(Peer.lock(3, 0, 1, 4));
        same("LOCK, later", q.notes.get(0).bytes, granted.bytes);
        Due cancelled = new Due(q, 10, 73).put(8, 4, Status.CANCELLED).put(14, 2, 0).put(16, 4, 3).put(32, 8, 3)
                .put(64, 2, 9);
        q.ask(marked(Peer.lock(3, 0, 1, 2)));
        q.wire.send(1, Peer.cancel().id(q.nextId - 1));
        same("CANCELLED", q.news().get(0).bytes, cancelled.bytes);
    }

    private static void errors() {
        Peer p = noisy();
        asks("an error", p, Peer.read(9, 0, 1), new Due(p, 8, 73).put(8, 4, Status.FILE_CLOSED).put(64, 2, 9));
        p.ask(Peer.read(1, 0, 1024));
        asks("no such COMMAND", p, new Req(77), new Due(p, 77, 73).put(8, 4, Status.NOT_SUPPORTED).put(64, 2, 9));
        p.ask(Peer.read(1, 0, 1024));
        asks("a refused list", p, Peer.list(1, 1, 0, "", 1024),
                new Due(p, 14, 73).put(8, 4, Status.INVALID_PARAMETER).put(64, 2, 9));
        p.openDirectory("");
        p.ask(Peer.read(1, 0, 1024));
        asks("NO_SUCH_FILE", p, Peer.list(2, 1, 0, "q", 1024),
                new Due(p, 14, 73).put(8, 4, Status.NO_SUCH_FILE).put(64, 2, 9));
    }
}
