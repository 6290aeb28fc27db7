import java.util.ArrayList;
import java.util.List;

/** One who speaks on a connection: keeps IDS, a session and a tree. */
final class Peer {
    static final int ALL = 0x001F01FF;
    static final long BEFORE = -1L;

    final Wire wire;
    final int c;
    long nextId;
    long session;
    long tree;
    /** Messages that went ahead of the answers of the last message: later answers, BREAKS. */
    final List<Answer> notes = new ArrayList<>();

    Peer(Wire wire, int c) {
        this.wire = wire;
        this.c = c;
    }

    /** A new house with a share "DATA", and a peer on connection 0. */
    static Peer fresh() {
        Wire w = new Wire();
        w.share(0, "DATA");
        return on(w, 0);
    }

    /** A peer with a session and a tree of "DATA". */
    static Peer on(Wire w, int c) {
        Peer p = bare(w, c);
        p.setUp("user" + c);
        p.connectTree("\\\\srv\\data");
        return p;
    }

    /** A peer that has negotiated. */
    static Peer bare(Wire w, int c) {
        w.house.connect(c);
        Peer p = new Peer(w, c);
        p.ask(negotiate());
        return p;
    }

    void setUp(String name) {
        session = ask(setUp(name, 0)).session();
    }

    void connectTree(String path) {
        tree = ask(tree(path)).tree();
    }

    /** Gives a request what its header needs of this peer. */
    Req mine(Req r) {
        r.id(nextId);
        nextId++;
        return r.in(session, tree);
    }

    /** The answers to one message of these requests. */
    List<Answer> askAll(Req... requests) {
        notes.clear();
        for (Req r : requests) {
            mine(r);
        }
        Check.eq("messages done", wire.send(c, requests), 1);
        List<Answer> last = new ArrayList<>();
        for (List<Answer> message : wire.take(c)) {
            notes.addAll(last);
            last = message;
        }
        return last;
    }

    Answer ask(Req r) {
        List<Answer> all = askAll(r);
        if (all.isEmpty()) {
            Check.is("an answer came", false);
            return new Answer(new byte[0]);
        }
        return all.get(0);
    }

    int status(Req r) {
        return ask(r).status();
    }

    /** With another session and tree. */
    int status2(Req r, long otherSession, long otherTree) {
        long mySession = session;
        long myTree = tree;
        session = otherSession;
        tree = otherTree;
        int status = status(r);
        session = mySession;
        tree = myTree;
        return status;
    }

    /** What came to this peer since. */
    List<Answer> news() {
        return wire.answers(c);
    }

    /** Opens a file with all access, sharing all, making it if need be. */
    long open(String path) {
        return ask(create(path, ALL, 7, 3, 0, 0)).n(128, 8);
    }

    long open(String path, int oplock) {
        return ask(create(path, ALL, 7, 3, 0, oplock)).n(128, 8);
    }

    long openDirectory(String path) {
        return ask(create(path, ALL, 7, 3, 1, 0)).n(128, 8);
    }

    // ---- requests

    static Req negotiate() {
        return Req.of(0, 36).put(66, 2, 1).put(100, 2, 0x0202).credits(8);
    }

    static Req setUp(String name, long former) {
        Req r = Req.of(1, 25).put(80, 8, former).put(76, 2, 88).put(78, 2, name.length());
        for (int i = 0; i < name.length(); i++) {
            r.put(88 + i, 1, name.charAt(i));
        }
        return r;
    }

    static Req logOff() {
        return Req.of(2, 4);
    }

    static Req tree(String path) {
        return Req.of(3, 9).text(68, 70, path);
    }

    static Req treeOff() {
        return Req.of(4, 4);
    }

    static Req create(String path, long access, int share, int disposition, int options, int oplock) {
        return Req.of(5, 57).put(67, 1, oplock).put(88, 4, access).put(92, 4, 0).put(96, 4, share).put(100, 4, disposition)
                .put(104, 4, options).text(108, 110, path);
    }

    /** The same in 120 bytes: a path of up to 10 units stands where the body may have any bytes. */
    static Req shortCreate(String path, long access, int share, int disposition, int options, int oplock) {
        return Req.of(5, 57).put(67, 1, oplock).put(88, 4, access).put(92, 4, 0).put(96, 4, share).put(100, 4, disposition)
                .put(104, 4, options).textAt(108, 110, 68, path);
    }

    static Req close(long file) {
        return Req.of(6, 24).put(66, 2, 0).file(72, file);
    }

    static Req flush(long file) {
        return Req.of(7, 24).file(72, file);
    }

    static Req read(long file, long from, long many) {
        return Req.of(8, 49).put(68, 4, many).put(72, 8, from).file(80, file).put(96, 4, 0);
    }

    static Req write(long file, long from, String bytes) {
        Req r = Req.of(9, 49).put(66, 2, 112).put(68, 4, bytes.length()).put(72, 8, from).file(80, file);
        for (int i = 0; i < bytes.length(); i++) {
            r.put(112 + i, 1, bytes.charAt(i));
        }
        return r;
    }

    /** Three numbers a lock: from, many, FLAGS. */
    static Req lock(long file, long... locks) {
        Req r = Req.of(10, 48).put(66, 2, locks.length / 3).file(72, file);
        for (int i = 0; i + 2 < locks.length; i += 3) {
            r.put(88 + 8 * i, 8, locks[i]).put(96 + 8 * i, 8, locks[i + 1]).put(104 + 8 * i, 4, locks[i + 2]);
            r.length(Math.max(r.size(), 112 + 8 * i));
        }
        return r;
    }

    static Req cancel() {
        return Req.of(12, 4);
    }

    static Req echo() {
        return Req.of(13, 4);
    }

    static Req list(long file, int infoClass, int flags, String pattern, int room) {
        return Req.of(14, 33).put(66, 1, infoClass).put(67, 1, flags).file(72, file).put(92, 4, room)
                .text(88, 90, pattern);
    }

    static Req info(long file, int kind, int infoClass, int room) {
        return Req.of(16, 41).put(66, 1, kind).put(67, 1, infoClass).put(68, 4, room).file(88, file);
    }

    static Req set(long file, int infoClass, byte[] what) {
        Req r = Req.of(17, 33).put(66, 1, 1).put(67, 1, infoClass).put(68, 4, what.length).put(72, 2, 96)
                .file(80, file);
        for (int i = 0; i < what.length; i++) {
            r.put(96 + i, 1, what[i]);
        }
        return r;
    }

    static Req setToGo(long file, int whether) {
        return set(file, 13, new byte[] {(byte) whether});
    }

    static Req setSize(long file, long size) {
        return set(file, 20, new byte[8]).put(96, 8, size);
    }

    static Req setValues(long file, long made, long looked, long written, long changed, long attributes) {
        return set(file, 4, new byte[40]).put(96, 8, made).put(104, 8, looked).put(112, 8, written)
                .put(120, 8, changed).put(128, 4, attributes);
    }

    static Req rename(long file, int taking, String path) {
        return set(file, 10, new byte[20 + 2 * path.length()]).put(96, 1, taking).put(97, 7, -1L).put(104, 8, -1L)
                .put(112, 4, 2L * path.length()).units(116, path);
    }

    static Req answerBreak(long file, int level) {
        return Req.of(18, 24).put(66, 1, level).file(72, file);
    }
}
