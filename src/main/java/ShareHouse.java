import java.util.ArrayList;
import java.util.Arrays;

/**
 * A house that serves files to several connections by the bytes of a published protocol.
 *
 * <p>A request never ends anything or opens a file that waited by itself: it marks what has to end, or to be done
 * again, and settle() does that, one thing after the other. So the order told by the document (an open is closed,
 * locks that wait are looked at, creates that wait are done again, then the next open) stands in one place.
 */
public final class ShareHouse {
    public static final int NONE = -1;

    private static final int TAPE_MOST = 8000;
    private static final int OUT_MOST = 16000;
    private static final int MESSAGE_MOST = 4000;
    private static final int HEADER = 64;
    private static final int CONNECTIONS = 6;
    private static final int SHARES = 4;
    private static final int NODES = 80;
    private static final int NAME_MOST = 12;
    private static final int USER_MOST = 16;
    private static final int PATH_MOST = 240;
    private static final int PATTERN_MOST = 40;
    private static final int SIZE_MOST = 4096;
    private static final int PIECE_MOST = 1024;
    private static final int RECORDS = 8;
    private static final int FREE_MOST = 16;
    private static final int SESSIONS = 8;
    private static final int TREES = 16;
    private static final int OPENS = 40;
    private static final int LOCKS = 60;
    private static final int LOCKS_ASKED = 8;
    private static final int WAITS = 16;
    private static final int LAPSE = 35;
    private static final int TICK_MOST = 1000000;
    private static final int DIALECT = 0x0202;
    private static final int PARTING = '\\';
    /** Far above what any run can need. */
    private static final int GUARD = 1000000;

    private static final int NEGOTIATE = 0;
    private static final int SESSION_SETUP = 1;
    private static final int LOGOFF = 2;
    private static final int TREE_CONNECT = 3;
    private static final int TREE_DISCONNECT = 4;
    private static final int CREATE = 5;
    private static final int CLOSE = 6;
    private static final int FLUSH = 7;
    private static final int READ = 8;
    private static final int WRITE = 9;
    private static final int LOCK = 10;
    private static final int CANCEL = 12;
    private static final int ECHO = 13;
    private static final int QUERY_DIRECTORY = 14;
    private static final int QUERY_INFO = 16;
    private static final int SET_INFO = 17;
    private static final int OPLOCK_BREAK = 18;

    /** By commands: the size that a body tells first; 0 of those that are not supported. */
    private static final int[] BODY = {36, 25, 4, 9, 4, 57, 24, 24, 49, 49, 48, 0, 4, 4, 33, 0, 41, 33, 24};
    /** By commands: where the FILE stands; 0 where there is none. */
    private static final int[] FILE_AT = {0, 0, 0, 0, 0, 0, 72, 72, 80, 80, 72, 0, 0, 0, 72, 0, 88, 80, 72};

    private static final long MAGIC = 0x424D53FEL;
    private static final int IS_ANSWER = 1;
    private static final int IS_ASYNC = 2;
    private static final int IS_RELATED = 4;

    private static final int OK = 0;
    private static final int PENDING = 0x00000103;
    private static final int NO_MORE_FILES = 0x80000006;
    private static final int INVALID_INFO_CLASS = 0xC0000003;
    private static final int INFO_LENGTH = 0xC0000004;
    private static final int INVALID_PARAMETER = 0xC000000D;
    private static final int NO_SUCH_FILE = 0xC000000F;
    private static final int END_OF_FILE = 0xC0000011;
    private static final int ACCESS_DENIED = 0xC0000022;
    private static final int NAME_INVALID = 0xC0000033;
    private static final int NAME_NOT_FOUND = 0xC0000034;
    private static final int NAME_COLLISION = 0xC0000035;
    private static final int PATH_NOT_FOUND = 0xC000003A;
    private static final int SHARING = 0xC0000043;
    private static final int LOCK_CONFLICT = 0xC0000054;
    private static final int LOCK_NOT_GRANTED = 0xC0000055;
    private static final int DELETE_PENDING = 0xC0000056;
    private static final int RANGE_NOT_LOCKED = 0xC000007E;
    private static final int DISK_FULL = 0xC000007F;
    private static final int RESOURCES = 0xC000009A;
    private static final int IS_A_DIRECTORY = 0xC00000BA;
    private static final int NOT_SUPPORTED = 0xC00000BB;
    private static final int TREE_GONE = 0xC00000C9;
    private static final int BAD_SHARE = 0xC00000CC;
    private static final int OPLOCK_PROTOCOL = 0xC00000E3;
    private static final int NOT_EMPTY = 0xC0000101;
    private static final int NOT_A_DIRECTORY = 0xC0000103;
    private static final int CANCELLED = 0xC0000120;
    private static final int CANNOT_DELETE = 0xC0000121;
    private static final int FILE_CLOSED = 0xC0000128;
    private static final int SESSION_GONE = 0xC0000203;

    private static final int MAY_READ = 0x1;
    private static final int MAY_WRITE = 0x2;
    private static final int MAY_APPEND = 0x4;
    private static final int MAY_RUN = 0x20;
    private static final int MAY_LOOK = 0x80;
    private static final int MAY_SET = 0x100;
    private static final int MAY_DELETE = 0x10000;
    private static final int ALL_ACCESS = 0x001F01FF;

    private static final int READONLY = 1;
    private static final int ARCHIVE = 32;
    private static final int OF_FILES = 0x27;
    private static final int OF_DIRECTORIES = 0x6;
    private static final int TOLD_DIRECTORY = 16;
    private static final int TOLD_NOTHING = 128;

    private static final int LEVEL_TWO = 1;
    private static final int EXCLUSIVE = 8;
    private static final int BATCH = 9;

    private static final int LOCK_SHARED = 0x1;
    private static final int LOCK_EXCLUSIVE = 0x2;
    private static final int LOCK_UNLOCK = 0x4;
    private static final int LOCK_AT_ONCE = 0x10;

    private static final int MADE = 0;
    private static final int BYTES_PUT = 1;
    private static final int SIZE_SET = 2;
    private static final int VALUES_SET = 3;
    private static final int NAME_CHANGED = 4;
    private static final int GONE = 5;

    private static final int NOT_WHOLE = 0;
    private static final int WHOLE = 1;
    private static final int WRONG = 2;

    private static final int SESSION_SERIAL = 0;
    private static final int TREE_SERIAL = 1;
    private static final int OPEN_SERIAL = 2;
    private static final int ASYNC_SERIAL = 3;

    private static final byte[] DOTS = {'.', '.'};
    /** What no NAME has beside what lies outside 32 .. 126. */
    private static final String NOT_IN_NAMES = "\\/:*?\"<>|";

    private final Row tape = new Row();
    private final Conn[] conns = new Conn[CONNECTIONS];
    private final int[] roots = new int[SHARES];
    private final Volume live = new Volume();
    private final Volume disk = new Volume();
    private final Change[] waiting = new Change[RECORDS];
    private int recordsWaiting;
    private long now;
    private final ArrayList<Session> sessions = new ArrayList<>();
    private final ArrayList<TreeLink> trees = new ArrayList<>();
    private final ArrayList<Open> opens = new ArrayList<>();
    private final ArrayList<Lock> locks = new ArrayList<>();
    /** Requests that wait, the eldest first. */
    private final ArrayList<Asked> waits = new ArrayList<>();
    private final long[] serials = new long[4];
    /** The answers of the message under way. */
    private final Row reply = new Row();
    /** The answer to the request under way. */
    private final Row answer = new Row();
    /** An answer that comes later; its own row, as one may go while another request is answered. */
    private final Row later = new Row();
    private final Row breaking = new Row();

    public ShareHouse() {
        for (int i = 0; i < conns.length; i++) {
            conns[i] = new Conn();
        }
        for (int i = 0; i < waiting.length; i++) {
            waiting[i] = new Change();
        }
        Arrays.fill(roots, NONE);
    }

    // ---- the public face

    public int feed(int a, int b, int c, int d, int e) {
        if (tape.length + 20 > TAPE_MOST) {
            return NONE;
        }
        tape.addHighestFirst(a);
        tape.addHighestFirst(b);
        tape.addHighestFirst(c);
        tape.addHighestFirst(d);
        tape.addHighestFirst(e);
        return tape.length;
    }

    public int cut(int n) {
        if (n < 0 || n > tape.length) {
            return NONE;
        }
        int went = tape.length - n;
        tape.length = n;
        return went;
    }

    public boolean share(int i) {
        boolean may = i >= 0 && i < roots.length && roots[i] == NONE && tapeIsShareName()
                && rootNamed(tape, 0, 1, tape.length) == null && live.count < NODES;
        if (may) {
            roots[i] = makeRoot();
        }
        tape.length = 0;
        return may;
    }

    public boolean connect(int c) {
        Conn k = connection(c);
        if (k == null || k.there) {
            return false;
        }
        k.begin();
        return true;
    }

    public boolean hang(int c) {
        Conn k = connection(c);
        if (k == null || !k.there) {
            return false;
        }
        shutOff(k);
        settle();
        return true;
    }

    public int come(int c) {
        int many = Math.min(tape.length, tape.bytes.length);
        tape.length = 0;
        Conn k = connection(c);
        if (k == null || !k.there) {
            return NONE;
        }
        int done = 0;
        for (int i = 0; i < many && k.there; i++) {
            k.came.add(tape.bytes[i]);
            int frame = k.frame();
            if (frame == WRONG) {
                shutOff(k);
                settle();
            } else if (frame == WHOLE) {
                beginMessage(k);
                boolean more = true;
                for (int j = 0; j < MESSAGE_MOST && more; j++) {
                    more = request(k);
                }
                k.came.length = 0;
                k.post(reply);
            }
            done += frame == NOT_WHOLE ? 0 : 1;
        }
        return done;
    }

    public boolean isOpen(int c) {
        Conn k = connection(c);
        return k != null && k.there;
    }

    public boolean tick(int n) {
        if (n < 0 || n > TICK_MOST) {
            return false;
        }
        now += n;
        for (int i = 0; i < opens.size(); i++) {
            Open o = opens.get(i);
            if (o.broken && now - o.brokenSince >= LAPSE) {
                endBreak(o, 0);
                settle();
            }
        }
        return true;
    }

    public int crash(int k) {
        if (k < 0 || k > recordsWaiting) {
            return NONE;
        }
        int were = recordsWaiting;
        recordsWaiting = k;
        comeToDisk();
        live.copyFrom(disk);
        for (int i = 0; i < conns.length; i++) {
            conns[i].vanish();
        }
        sessions.clear();
        trees.clear();
        opens.clear();
        locks.clear();
        waits.clear();
        Arrays.fill(serials, 0L);
        return were;
    }

    public int outs(int c) {
        Conn k = connection(c);
        return k == null ? NONE : k.sent.length;
    }

    public int out(int c, int i) {
        Conn k = connection(c);
        if (k == null || i < 0 || i >= k.sent.length) {
            return NONE;
        }
        return (int) k.sent.number(i, 1);
    }

    public int drop(int c) {
        Conn k = connection(c);
        if (k == null) {
            return NONE;
        }
        int had = k.sent.length;
        k.sent.length = 0;
        return had;
    }

    public int told(int what) {
        switch (what) {
            case 0: return (int) now;
            case 1: return recordsWaiting;
            case 2: return live.count;
            case 3: return opens.size();
            case 4: return locks.size();
            case 5: return waits.size();
            case 6: return sessions.size();
            case 7: return trees.size();
            case 8: return disk.count;
            default: return NONE;
        }
    }

    // ---- shares and the log

    private Conn connection(int c) {
        return c >= 0 && c < conns.length ? conns[c] : null;
    }

    private boolean tapeIsShareName() {
        if (tape.length < 1 || tape.length > NAME_MOST) {
            return false;
        }
        for (int i = 0; i < tape.length; i++) {
            long unit = tape.number(i, 1);
            if (unit < 33 || unit > 126 || unit == PARTING) {
                return false;
            }
        }
        return true;
    }

    /** The root of the share with the name that stands in a row, by units of width bytes; null: none has it. */
    private Node rootNamed(Row row, int at, int width, int units) {
        for (int i = 0; i < roots.length; i++) {
            Node n = live.node(roots[i]);
            if (n != null && n.nameLength == units) {
                boolean same = true;
                for (int j = 0; j < units && j < n.name.length; j++) {
                    same = same && upper((int) row.number(at + j * width, width)) == upper(n.name[j]);
                }
                if (same) {
                    return n;
                }
            }
        }
        return null;
    }

    /** A root keeps its share's name where other nodes have theirs: so the name is on the disk as the root is. */
    private int makeRoot() {
        comeToDisk();
        Node n = live.free();
        if (n == null) {
            return NONE;
        }
        Change r = nextChange(MADE, n);
        r.beginNode(NONE, true, 0, now);
        r.nameLength = Math.min(tape.length, r.name.length);
        for (int i = 0; i < r.nameLength; i++) {
            r.name[i] = (byte) tape.number(i, 1);
        }
        live.apply(r);
        disk.apply(r);
        return n.number;
    }

    /** The next record of the log, which tells what the node is now until the caller changes it. */
    private Change nextChange(int kind, Node n) {
        if (recordsWaiting < 0 || recordsWaiting >= waiting.length) {
            comeToDisk();
        }
        Change r = waiting[recordsWaiting];
        r.fill(kind, n);
        return r;
    }

    private void done(Change r) {
        live.apply(r);
        recordsWaiting++;
        if (recordsWaiting >= RECORDS) {
            comeToDisk();
        }
    }

    private void comeToDisk() {
        for (int i = 0; i < recordsWaiting && i < waiting.length; i++) {
            disk.apply(waiting[i]);
        }
        recordsWaiting = 0;
    }

    // ---- messages

    private void beginMessage(Conn k) {
        k.at = 4;
        k.answerAt = 0;
        k.beforeFile = false;
        reply.begin(0);
    }

    /** Does the request at k.at; false where it was the last of its message, or the connection was cut at it. */
    private boolean request(Conn k) {
        Asked a = new Asked(k);
        if (!a.stands() || !k.admits(a.command, a.id)) {
            shutOff(k);
            settle();
            return false;
        }
        k.beforeFile = false;
        int status = look(a);
        if (status == OK) {
            status = prepare(a);
        }
        settle();
        if (status == OK && a.open != null) {
            status = performOnFile(a, a.open);
        } else if (status == OK) {
            status = a.command == CREATE ? openOrWait(a) : perform(a);
        }
        settle();
        finish(a, status);
        k.at += a.length;
        return !a.last();
    }

    private void finish(Asked a, int status) {
        Conn k = a.conn;
        if (a.command != CANCEL) {
            seal(answer, a, status, k.grant(a.credits));
            k.answerAt = reply.chain(answer, k.answerAt);
        }
        if (a.command == CREATE && a.open != null) {
            k.tellFile(a.open.serial, a.open.serial);
        }
        k.beforeSession = a.session;
        k.beforeTree = a.tree;
    }

    /** Puts the header before a body; a status other than OK has the body of errors. */
    private void seal(Row m, Asked a, int status, int granted) {
        if (status != OK) {
            m.begin(HEADER + 9);
            m.put(64, 2, 9);
        }
        int flags = IS_ANSWER | (a.related() ? IS_RELATED : 0) | (a.async != 0 ? IS_ASYNC : 0);
        m.put(0, 4, MAGIC);
        m.put(4, 2, HEADER);
        m.put(6, 2, a.charge);
        m.put(8, 4, status);
        m.put(12, 2, a.command);
        m.put(14, 2, granted);
        m.put(16, 4, flags);
        m.put(24, 8, a.id);
        if (a.async != 0) {
            m.put(32, 8, a.async);
        } else {
            m.put(32, 4, a.process);
            m.put(36, 4, a.tree);
        }
        m.put(40, 8, a.session);
    }

    private void sendLater(Asked a, int status) {
        seal(later, a, status, 0);
        a.conn.post(later);
    }

    /** SESSION, TREE, body and FILE, in this order. */
    private int look(Asked a) {
        int c = a.command;
        boolean free = c == NEGOTIATE || c == SESSION_SETUP || c == ECHO || c == CANCEL;
        if (!free) {
            a.by = sessionOf(a);
            if (a.by == null) {
                return SESSION_GONE;
            }
        }
        if (!free && c != LOGOFF && c != TREE_CONNECT) {
            a.through = treeOf(a);
            if (a.through == null) {
                return TREE_GONE;
            }
        }
        if (c < 0 || c >= BODY.length || c >= FILE_AT.length || BODY[c] == 0) {
            return NOT_SUPPORTED;
        }
        int size = BODY[c];
        if (a.length < HEADER + size - size % 2 || a.number(64, 2) != size || !a.holdsWhatItTells()) {
            return INVALID_PARAMETER;
        }
        return FILE_AT[c] == 0 ? OK : lookAtFile(a, FILE_AT[c]);
    }

    private Session sessionOf(Asked a) {
        for (int i = 0; i < sessions.size(); i++) {
            Session s = sessions.get(i);
            if (s.serial == a.session && s.conn == a.conn) {
                return s;
            }
        }
        return null;
    }

    private TreeLink treeOf(Asked a) {
        for (int i = 0; i < trees.size(); i++) {
            TreeLink t = trees.get(i);
            if (t.serial == a.tree && t.session == a.by) {
                return t;
            }
        }
        return null;
    }

    private int lookAtFile(Asked a, int at) {
        Conn k = a.conn;
        long low = a.number(at, 8);
        long high = a.number(at + 8, 8);
        if (a.related() && low == -1 && high == -1) {
            if (!a.fileBefore) {
                return INVALID_PARAMETER;
            }
            low = k.beforeLow;
            high = k.beforeHigh;
        }
        k.tellFile(low, high);
        for (int i = 0; i < opens.size(); i++) {
            Open o = opens.get(i);
            if (o.serial == low && low == high && o.tree == a.through) {
                a.open = o;
                return OK;
            }
        }
        return FILE_CLOSED;
    }

    /** What has to be known, or to end, before a request is done. */
    private int prepare(Asked a) {
        if (a.command == SESSION_SETUP) {
            return endFormer(a);
        }
        return a.command == CREATE ? readWish(a) : OK;
    }

    private int perform(Asked a) {
        switch (a.command) {
            case NEGOTIATE: return negotiate(a);
            case SESSION_SETUP: return setUp(a);
            case LOGOFF: return logOff(a);
            case TREE_CONNECT: return connectTree(a);
            case TREE_DISCONNECT: return disconnectTree(a);
            case ECHO: return plainAnswer();
            case CANCEL: return cancel(a);
            default: return NOT_SUPPORTED;
        }
    }

    private int performOnFile(Asked a, Open o) {
        switch (a.command) {
            case CLOSE: return close(a, o);
            case FLUSH: return flush(o);
            case READ: return read(a, o);
            case WRITE: return write(a, o);
            case LOCK: return lock(a, o);
            case QUERY_DIRECTORY: return queryDirectory(a, o);
            case QUERY_INFO: return queryInfo(a, o);
            case SET_INFO: return setInfo(a, o);
            case OPLOCK_BREAK: return answerBreak(a, o);
            default: return NOT_SUPPORTED;
        }
    }

    private int plainAnswer() {
        answer.begin(HEADER + 4);
        answer.put(64, 2, 4);
        return OK;
    }

    private int beginWaiting(Asked a) {
        if (waits.size() >= WAITS) {
            return RESOURCES;
        }
        a.async = nextSerial(ASYNC_SERIAL);
        waits.add(a);
        return PENDING;
    }

    private long nextSerial(int which) {
        if (which < 0 || which >= serials.length) {
            return NONE;
        }
        serials[which]++;
        return serials[which];
    }

    private int cancel(Asked a) {
        boolean byNumber = (a.flags & IS_ASYNC) != 0;
        long number = byNumber ? a.number(32, 8) : a.id;
        for (int i = 0; i < waits.size(); i++) {
            Asked w = waits.get(i);
            if (w.conn == a.conn && (byNumber ? w.async : w.id) == number) {
                waits.remove(i);
                sendLater(w, CANCELLED);
                return OK;
            }
        }
        return OK;
    }

    // ---- what ends, and what was waiting for it

    /** The connection is not there from now on; settle() ends its sessions. */
    private void shutOff(Conn k) {
        k.there = false;
        giveUp(k, null, null);
        for (int i = 0; i < sessions.size(); i++) {
            Session s = sessions.get(i);
            s.ending = s.ending || s.conn == k;
        }
    }

    /** Requests of a connection, a session or a tree (null: of none) that wait are given up without answer. */
    private void giveUp(Conn k, Session s, TreeLink t) {
        for (int i = waits.size() - 1; i >= 0; i--) {
            Asked w = waits.get(i);
            if (w.conn == k || (s != null && w.by == s) || (t != null && w.through == t)) {
                waits.remove(i);
            }
        }
    }

    /** Does all that is marked, one at a time: what an open that was closed made free is taken before the next. */
    private void settle() {
        for (int i = 0; i < GUARD; i++) {
            wakeLocks();
            Asked w = nextAgain();
            Open o = w == null ? nextClosing() : null;
            if (w != null) {
                int status = tryOpen(w, later);
                if (status != PENDING) {
                    stopWaiting(w);
                    sendLater(w, status);
                }
            } else if (o != null) {
                closeOpen(o);
            } else {
                return;
            }
        }
    }

    /** Only locks that went can let one be that waits, so it does no harm to look more often. */
    private void wakeLocks() {
        int many = waits.size();
        int at = 0;
        for (int i = 0; i < many && at < waits.size(); i++) {
            Asked w = waits.get(at);
            if (w.lock != null && locks.size() < LOCKS && canBe(w.lock)) {
                locks.add(w.lock);
                waits.remove(at);
                later.begin(HEADER + 4);
                later.put(64, 2, 4);
                sendLater(w, OK);
            } else {
                at++;
            }
        }
    }

    private Asked nextAgain() {
        for (int i = 0; i < waits.size(); i++) {
            Asked w = waits.get(i);
            if (w.again) {
                w.again = false;
                return w;
            }
        }
        return null;
    }

    private void stopWaiting(Asked a) {
        for (int i = waits.size() - 1; i >= 0; i--) {
            if (waits.get(i) == a) {
                waits.remove(i);
            }
        }
    }

    /** The next open that has to be closed; a tree, a session that ends goes when nothing of it is left. */
    private Open nextClosing() {
        for (int i = 0; i < opens.size(); i++) {
            if (opens.get(i).closing) {
                return opens.get(i);
            }
        }
        for (int i = 0; i < GUARD; i++) {
            int s = firstEndingSession();
            int t = firstEndingTree(s == NONE ? null : sessions.get(s));
            if (t != NONE) {
                Open o = firstOpenOf(trees.get(t));
                if (o != null) {
                    return o;
                }
                trees.remove(t);
            } else if (s != NONE) {
                sessions.remove(s);
            } else {
                return null;
            }
        }
        return null;
    }

    private int firstEndingSession() {
        for (int i = 0; i < sessions.size(); i++) {
            if (sessions.get(i).ending) {
                return i;
            }
        }
        return NONE;
    }

    private int firstEndingTree(Session s) {
        for (int i = 0; i < trees.size(); i++) {
            TreeLink t = trees.get(i);
            if (t.ending || (s != null && t.session == s)) {
                return i;
            }
        }
        return NONE;
    }

    private Open firstOpenOf(TreeLink t) {
        for (int i = 0; i < opens.size(); i++) {
            if (opens.get(i).tree == t) {
                return opens.get(i);
            }
        }
        return null;
    }

    private void closeOpen(Open o) {
        cancelLocksThatWait(o);
        for (int i = locks.size() - 1; i >= 0; i--) {
            if (locks.get(i).open == o) {
                locks.remove(i);
            }
        }
        for (int i = opens.size() - 1; i >= 0; i--) {
            if (opens.get(i) == o) {
                opens.remove(i);
            }
        }
        Node n = o.node;
        n.toGo = n.toGo || o.goneOnClose;
        if (n.toGo && !isOpened(n)) {
            if (n.directory && live.holdsAny(n.number)) {
                n.toGo = false;
            } else {
                done(nextChange(GONE, n));
            }
        }
        comeToDisk();
        doAgain(n);
    }

    private void cancelLocksThatWait(Open o) {
        int many = waits.size();
        int at = 0;
        for (int i = 0; i < many && at < waits.size(); i++) {
            Asked w = waits.get(at);
            if (w.lock != null && w.lock.open == o) {
                waits.remove(at);
                sendLater(w, CANCELLED);
            } else {
                at++;
            }
        }
    }

    /** Marks the creates that wait for a node. */
    private void doAgain(Node n) {
        for (int i = 0; i < waits.size(); i++) {
            Asked w = waits.get(i);
            w.again = w.again || (w.wish != null && w.node == n);
        }
    }

    private boolean isOpened(Node n) {
        for (int i = 0; i < opens.size(); i++) {
            if (opens.get(i).node == n) {
                return true;
            }
        }
        return false;
    }

    // ---- sessions and trees

    private int negotiate(Asked a) {
        int many = (int) a.number(66, 2);
        if (many == 0 || 100 + 2 * many > a.length) {
            return INVALID_PARAMETER;
        }
        boolean known = false;
        for (int i = 0; i < many; i++) {
            known = known || a.number(100 + 2 * i, 2) == DIALECT;
        }
        if (!known) {
            return NOT_SUPPORTED;
        }
        a.conn.negotiated = true;
        answer.begin(HEADER + 65);
        answer.put(64, 2, 65);
        answer.put(66, 2, 1);
        answer.put(68, 2, DIALECT);
        answer.put(92, 4, PIECE_MOST);
        answer.put(96, 4, PIECE_MOST);
        answer.put(100, 4, PIECE_MOST);
        answer.put(104, 8, now);
        answer.put(120, 2, 128);
        return OK;
    }

    /** Marks the former session, which is ended even if there is no room for a new one. */
    private int endFormer(Asked a) {
        int at = (int) a.number(76, 2);
        int many = (int) a.number(78, 2);
        if (many < 1 || many > USER_MOST) {
            return INVALID_PARAMETER;
        }
        for (int i = 0; i < many; i++) {
            long unit = a.number(at + i, 1);
            if (unit < 33 || unit > 126) {
                return INVALID_PARAMETER;
            }
        }
        long former = a.number(80, 8);
        for (int i = 0; i < sessions.size(); i++) {
            Session s = sessions.get(i);
            if (s.serial == former && s.isNamed(a, at, many)) {
                s.ending = true;
                giveUp(null, s, null);
            }
        }
        return OK;
    }

    private int setUp(Asked a) {
        if (sessions.size() >= SESSIONS) {
            return RESOURCES;
        }
        Session s = new Session(nextSerial(SESSION_SERIAL), a);
        sessions.add(s);
        a.session = s.serial;
        answer.begin(HEADER + 9);
        answer.put(64, 2, 9);
        answer.put(68, 2, 72);
        return OK;
    }

    private int logOff(Asked a) {
        if (a.by == null) {
            return SESSION_GONE;
        }
        a.by.ending = true;
        giveUp(null, a.by, null);
        return plainAnswer();
    }

    private int connectTree(Asked a) {
        int at = (int) a.number(68, 2);
        int many = (int) a.number(70, 2);
        if (many % 2 != 0) {
            return INVALID_PARAMETER;
        }
        int begin = 0;
        for (int i = 0; i < many; i += 2) {
            if (a.number(at + i, 2) == PARTING) {
                begin = i + 2;
            }
        }
        Node root = rootNamed(a.conn.came, a.start + at + begin, 2, (many - begin) / 2);
        if (root == null) {
            return BAD_SHARE;
        }
        if (trees.size() >= TREES) {
            return RESOURCES;
        }
        TreeLink t = new TreeLink(nextSerial(TREE_SERIAL), a.by, root);
        trees.add(t);
        a.tree = t.serial;
        answer.begin(HEADER + 16);
        answer.put(64, 2, 16);
        answer.put(66, 1, 1);
        answer.put(76, 4, ALL_ACCESS);
        return OK;
    }

    private int disconnectTree(Asked a) {
        if (a.through == null) {
            return TREE_GONE;
        }
        a.through.ending = true;
        giveUp(null, null, a.through);
        return plainAnswer();
    }

    // ---- opens

    /** What a create asks, as far as it has nothing to do with what is there. */
    private int readWish(Asked a) {
        long share = a.number(96, 4);
        long disposition = a.number(100, 4);
        if (share > 7 || disposition > 5) {
            return INVALID_PARAMETER;
        }
        Wish w = new Wish();
        w.share = (int) share;
        w.disposition = (int) disposition;
        w.takeOptions((int) a.number(104, 4));
        if (w.directory && (w.fileAlone || w.empties())) {
            return INVALID_PARAMETER;
        }
        w.takeAccess((int) a.number(88, 4));
        if (w.access == 0 || (w.goneOnClose && (w.access & MAY_DELETE) == 0)) {
            return ACCESS_DENIED;
        }
        int oplock = (int) a.number(67, 1);
        w.oplock = oplock == LEVEL_TWO || oplock == EXCLUSIVE || oplock == BATCH ? oplock : 0;
        w.attributes = (int) a.number(92, 4);
        a.wish = w;
        return w.takePath(a, (int) a.number(108, 2), a.number(110, 2)) ? OK : NAME_INVALID;
    }

    private int openOrWait(Asked a) {
        int status = tryOpen(a, answer);
        if (status != PENDING) {
            return status;
        }
        return a.last() ? beginWaiting(a) : SHARING;
    }

    /** A create from its path on; PENDING: it has to wait. */
    private int tryOpen(Asked a, Row m) {
        Wish w = a.wish;
        if (w == null || a.through == null) {
            return INVALID_PARAMETER;
        }
        if (!walk(w, a.through.root)) {
            return PATH_NOT_FOUND;
        }
        return w.found == null ? openNew(a, w, m) : openThere(a, w, m);
    }

    /** Finds what a path leads to; false: a directory on the way is not there. */
    private boolean walk(Wish path, Node root) {
        Node place = root;
        int begin = 0;
        path.found = path.count == 0 ? root : null;
        path.place = root;
        path.nameAt = 0;
        for (int i = 0; i < path.count; i++) {
            if (path.unit(i) == PARTING) {
                place = live.child(place.number, path, begin, i);
                if (place == null || !place.directory || place.toGo) {
                    return false;
                }
                begin = i + 1;
            }
        }
        if (path.count > 0) {
            path.place = place;
            path.nameAt = begin;
            path.found = live.child(place.number, path, begin, path.count);
        }
        return true;
    }

    private int openNew(Asked a, Wish w, Row m) {
        if (w.disposition == 1 || w.disposition == 4) {
            return NAME_NOT_FOUND;
        }
        if (opens.size() >= OPENS) {
            return RESOURCES;
        }
        Node n = live.free();
        if (n == null) {
            return DISK_FULL;
        }
        Change r = nextChange(MADE, n);
        r.beginNode(w.place.number, w.directory, w.newAttributes(), now);
        w.nameTo(r);
        done(r);
        addOpen(a, n, 2, m);
        return OK;
    }

    private int openThere(Asked a, Wish w, Row m) {
        Node n = w.found;
        int refused = refusal(n, w);
        if (refused != OK) {
            return refused;
        }
        Open holder = n.directory ? null : holder(n);
        if (holder != null && (holder.broken || holder.oplock == BATCH)) {
            return waitFor(a, holder);
        }
        if (!sharesWithOthers(n, w)) {
            return SHARING;
        }
        if (holder != null) {
            return waitFor(a, holder);
        }
        int action = 1;
        if (w.empties()) {
            Change size = nextChange(SIZE_SET, n);
            size.size = 0;
            size.written = now;
            size.changed = now;
            done(size);
            Change values = nextChange(VALUES_SET, n);
            values.attributes = w.disposition == 0 ? w.newAttributes() : n.attributes | w.newAttributes();
            values.changed = now;
            done(values);
            breakLevelTwo(n, null);
            action = w.disposition == 0 ? 0 : 3;
        }
        addOpen(a, n, action, m);
        return OK;
    }

    private int refusal(Node n, Wish w) {
        if (n.toGo) {
            return DELETE_PENDING;
        }
        if (w.disposition == 2) {
            return NAME_COLLISION;
        }
        if (n.directory && (w.fileAlone || w.empties())) {
            return IS_A_DIRECTORY;
        }
        if (!n.directory && w.directory) {
            return NOT_A_DIRECTORY;
        }
        boolean readonly = (n.attributes & READONLY) != 0;
        if (readonly && ((w.access & (MAY_WRITE | MAY_APPEND)) != 0 || w.empties())) {
            return ACCESS_DENIED;
        }
        if (w.goneOnClose && (readonly || n.parent == NONE)) {
            return CANNOT_DELETE;
        }
        return opens.size() >= OPENS ? RESOURCES : OK;
    }

    /** The open that has EXCLUSIVE or BATCH, of which there is one at most. */
    private Open holder(Node n) {
        for (int i = 0; i < opens.size(); i++) {
            Open o = opens.get(i);
            if (o.node == n && o.oplock >= EXCLUSIVE) {
                return o;
            }
        }
        return null;
    }

    private int waitFor(Asked a, Open holder) {
        a.node = holder.node;
        if (!holder.broken) {
            holder.broken = true;
            holder.brokenTo = a.wish != null && a.wish.empties() ? 0 : LEVEL_TWO;
            holder.brokenSince = now;
            sendBreak(holder, holder.brokenTo);
        }
        return PENDING;
    }

    private boolean sharesWithOthers(Node n, Wish w) {
        int wants = wanted(w.access);
        for (int i = 0; i < opens.size(); i++) {
            Open o = opens.get(i);
            int has = wanted(o.access);
            if (o.node == n && wants != 0 && has != 0 && ((wants & ~o.share) != 0 || (has & ~w.share) != 0)) {
                return false;
            }
        }
        return true;
    }

    /** The bits of SHARE that an ACCESS wants of the other one. */
    private static int wanted(int access) {
        return ((access & (MAY_READ | MAY_RUN)) != 0 ? 1 : 0)
                | ((access & (MAY_WRITE | MAY_APPEND)) != 0 ? 2 : 0)
                | ((access & MAY_DELETE) != 0 ? 4 : 0);
    }

    private void addOpen(Asked a, Node n, int action, Row m) {
        Wish w = a.wish;
        if (w == null) {
            return;
        }
        int oplock = granted(n, w.oplock);
        Open o = new Open(nextSerial(OPEN_SERIAL), a.through, n);
        o.access = w.access;
        o.share = w.share;
        o.goneOnClose = w.goneOnClose;
        o.oplock = oplock;
        opens.add(o);
        a.open = o;
        m.begin(HEADER + 88);
        m.put(64, 2, 89);
        m.put(66, 1, oplock);
        m.put(68, 4, action);
        n.tellAll(m);
        m.put(128, 8, o.serial);
        m.put(136, 8, o.serial);
    }

    private int granted(Node n, int asked) {
        if (n.directory || asked == 0) {
            return 0;
        }
        if (!isOpened(n)) {
            return asked;
        }
        return holder(n) == null && !hasLocks(n) ? LEVEL_TWO : 0;
    }

    private boolean hasLocks(Node n) {
        for (int i = 0; i < locks.size(); i++) {
            if (locks.get(i).open.node == n) {
                return true;
            }
        }
        return false;
    }

    /** Told before the open is closed, as its node may go then. */
    private int close(Asked a, Open o) {
        int flags = (int) a.number(66, 2) & 1;
        answer.begin(HEADER + 60);
        if (flags != 0) {
            o.node.tellAll(answer);
        }
        answer.put(64, 2, 60);
        answer.put(66, 2, flags);
        o.closing = true;
        return OK;
    }

    private int flush(Open o) {
        if ((o.access & (MAY_WRITE | MAY_APPEND)) == 0) {
            return ACCESS_DENIED;
        }
        comeToDisk();
        return plainAnswer();
    }

    private int read(Asked a, Open o) {
        Node n = o.node;
        long many = a.number(68, 4);
        long from = a.number(72, 8);
        if (many > PIECE_MOST) {
            return INVALID_PARAMETER;
        }
        if (n.directory) {
            return IS_A_DIRECTORY;
        }
        if ((o.access & MAY_READ) == 0) {
            return ACCESS_DENIED;
        }
        if (othersLock(o, from, many, false)) {
            return LOCK_CONFLICT;
        }
        boolean behind = !below(from, n.size);
        int there = behind ? 0 : (int) Math.min(many, n.size - from);
        if ((behind && many != 0) || there < a.number(96, 4)) {
            return END_OF_FILE;
        }
        answer.begin(HEADER + 16 + Math.max(1, there));
        answer.put(64, 2, 17);
        answer.put(66, 1, 80);
        answer.put(68, 4, there);
        for (int i = 0; i < there; i++) {
            answer.put(80 + i, 1, n.byteAt((int) from + i));
        }
        return OK;
    }

    private int write(Asked a, Open o) {
        Node n = o.node;
        int at = (int) a.number(66, 2);
        int many = (int) a.number(68, 4);
        long from = a.number(72, 8);
        if (n.directory) {
            return IS_A_DIRECTORY;
        }
        int may = o.access & (MAY_WRITE | MAY_APPEND);
        if (may == 0 || (may == MAY_APPEND && from != n.size)) {
            return ACCESS_DENIED;
        }
        if (othersLock(o, from, many, true) || ownSharedLock(o, from, many)) {
            return LOCK_CONFLICT;
        }
        if (!below(from, SIZE_MOST + 1) || from + many > SIZE_MOST) {
            return DISK_FULL;
        }
        if (many > 0) {
            Change r = nextChange(BYTES_PUT, n);
            r.takeBytes(a, at, many, (int) from);
            r.written = now;
            r.changed = now;
            done(r);
            breakLevelTwo(n, o);
        }
        answer.begin(HEADER + 17);
        answer.put(64, 2, 17);
        answer.put(68, 4, many);
        return OK;
    }

    // ---- oplocks

    /** LEVEL II of all opens of a node but one (null: of all). */
    private void breakLevelTwo(Node n, Open but) {
        for (int i = 0; i < opens.size(); i++) {
            Open o = opens.get(i);
            if (o.node == n && o != but && o.oplock == LEVEL_TWO) {
                o.oplock = 0;
                sendBreak(o, 0);
            }
        }
    }

    private void sendBreak(Open o, int level) {
        breaking.begin(HEADER + 24);
        breaking.put(0, 4, MAGIC);
        breaking.put(4, 2, HEADER);
        breaking.put(12, 2, OPLOCK_BREAK);
        breaking.put(16, 4, IS_ANSWER);
        breaking.put(24, 8, -1L);
        breaking.put(64, 2, 24);
        breaking.put(66, 1, level);
        breaking.put(72, 8, o.serial);
        breaking.put(80, 8, o.serial);
        o.tree.session.conn.post(breaking);
    }

    private int answerBreak(Asked a, Open o) {
        int level = (int) a.number(66, 1);
        if (!o.broken) {
            return OPLOCK_PROTOCOL;
        }
        boolean fits = level <= o.brokenTo;
        endBreak(o, fits ? level : 0);
        if (!fits) {
            return OPLOCK_PROTOCOL;
        }
        answer.begin(HEADER + 24);
        answer.put(64, 2, 24);
        answer.put(66, 1, level);
        answer.put(72, 8, o.serial);
        answer.put(80, 8, o.serial);
        return OK;
    }

    private void endBreak(Open o, int level) {
        o.oplock = level;
        o.broken = false;
        doAgain(o.node);
    }

    // ---- locks

    private int lock(Asked a, Open o) {
        int many = (int) a.number(66, 2);
        if (many < 1 || many > LOCKS_ASKED || 88 + 24 * many > a.length) {
            return INVALID_PARAMETER;
        }
        if (o.node.directory) {
            return IS_A_DIRECTORY;
        }
        if ((o.access & (MAY_READ | MAY_WRITE | MAY_APPEND)) == 0) {
            return ACCESS_DENIED;
        }
        boolean unlocks = a.number(88 + 16, 4) == LOCK_UNLOCK;
        for (int i = 0; i < many; i++) {
            int at = 88 + 24 * i;
            long flags = a.number(at + 16, 4);
            boolean fits = unlocks ? flags == LOCK_UNLOCK : isLocking(flags, many);
            if (!fits || isTooFar(a.number(at, 8), a.number(at + 8, 8))) {
                return INVALID_PARAMETER;
            }
        }
        return unlocks ? unlockEach(a, o, many) : lockAll(a, o, many);
    }

    private static boolean isLocking(long flags, int many) {
        long kind = flags & ~LOCK_AT_ONCE;
        boolean atOnce = (flags & LOCK_AT_ONCE) != 0;
        return (kind == LOCK_SHARED || kind == LOCK_EXCLUSIVE) && (atOnce || many == 1);
    }

    /** Whether from and many are above 2^64 together; a sum that wraps to just 0 is not. */
    private static boolean isTooFar(long from, long many) {
        long end = from + many;
        return end != 0 && below(end, from);
    }

    private int unlockEach(Asked a, Open o, int many) {
        for (int i = 0; i < many; i++) {
            int at = 88 + 24 * i;
            int found = eldestLock(o, a.number(at, 8), a.number(at + 8, 8));
            if (found == NONE) {
                return RANGE_NOT_LOCKED;
            }
            locks.remove(found);
        }
        return plainAnswer();
    }

    private int eldestLock(Open o, long from, long many) {
        for (int i = 0; i < locks.size(); i++) {
            Lock l = locks.get(i);
            if (l.open == o && l.from == from && l.many == many) {
                return i;
            }
        }
        return NONE;
    }

    private int lockAll(Asked a, Open o, int many) {
        int before = locks.size();
        if (before + many > LOCKS) {
            return RESOURCES;
        }
        breakLevelTwo(o.node, null);
        for (int i = 0; i < many; i++) {
            int at = 88 + 24 * i;
            long flags = a.number(at + 16, 4);
            Lock l = new Lock(o, a.number(at, 8), a.number(at + 8, 8), (flags & LOCK_SHARED) != 0);
            if (!canBe(l)) {
                undoLocks(before);
                boolean waits = (flags & LOCK_AT_ONCE) == 0 && a.last();
                a.lock = waits ? l : null;
                return waits ? beginWaiting(a) : LOCK_NOT_GRANTED;
            }
            locks.add(l);
        }
        return plainAnswer();
    }

    private void undoLocks(int before) {
        for (int i = locks.size() - 1; i >= before && i >= 0; i--) {
            locks.remove(i);
        }
    }

    private boolean canBe(Lock wanted) {
        for (int i = 0; i < locks.size(); i++) {
            Lock l = locks.get(i);
            if (l.open.node == wanted.open.node && !(l.shared && wanted.shared) && l.meets(wanted.from, wanted.many)) {
                return false;
            }
        }
        return true;
    }

    /** Whether other opens of the node have a lock (an EXCLUSIVE one, or any) that meets a range. */
    private boolean othersLock(Open o, long from, long many, boolean any) {
        for (int i = 0; i < locks.size(); i++) {
            Lock l = locks.get(i);
            if (l.open.node == o.node && l.open != o && (any || !l.shared) && l.meets(from, many)) {
                return true;
            }
        }
        return false;
    }

    private boolean ownSharedLock(Open o, long from, long many) {
        for (int i = 0; i < locks.size(); i++) {
            Lock l = locks.get(i);
            if (l.open == o && l.shared && l.meets(from, many)) {
                return true;
            }
        }
        return false;
    }

    // ---- directories and what is told

    private int queryDirectory(Asked a, Open o) {
        long room = a.number(92, 4);
        int kind = (int) a.number(66, 1);
        int flags = (int) a.number(67, 1);
        if (room > PIECE_MOST || !o.node.directory) {
            return INVALID_PARAMETER;
        }
        if (kind != 1 && kind != 12) {
            return INVALID_INFO_CLASS;
        }
        if ((o.access & MAY_READ) == 0) {
            return ACCESS_DENIED;
        }
        boolean anew = o.pattern == null || (flags & 1) != 0;
        if (anew) {
            int many = (int) a.number(90, 2);
            if (many % 2 != 0 || many > PATTERN_MOST) {
                return NAME_INVALID;
            }
            o.takePattern(a, (int) a.number(88, 2), many / 2);
        }
        int most = (flags & 2) != 0 ? 1 : NODES + 2;
        int status = list(o, kind, (int) room, most);
        return status == NO_MORE_FILES && anew ? NO_SUCH_FILE : status;
    }

    /** Puts up to so many entries into the answer, as room has. */
    private int list(Open o, int kind, int room, int most) {
        answer.begin(72 + room);
        int head = kind == 1 ? 64 : 12;
        int used = 0;
        int last = 0;
        int status = NO_MORE_FILES;
        for (int i = 0; i < most; i++) {
            int stage = nextStage(o);
            Node n = entryNode(o, stage);
            if (n == null) {
                break;
            }
            byte[] name = stage < 2 ? DOTS : n.name;
            int units = stage < 2 ? stage + 1 : n.nameLength;
            int at = used + 7 - (used + 7) % 8;
            if (at + head + 2 * units > room) {
                status = i == 0 ? INFO_LENGTH : status;
                break;
            }
            answer.put(72 + last, 4, at - last);
            putEntry(72 + at, kind, n, name, units);
            o.goBehind(stage, n);
            last = at;
            used = at + head + 2 * units;
            status = OK;
        }
        answer.put(64, 2, 9);
        answer.put(66, 2, 72);
        answer.put(68, 4, used);
        answer.length = 72 + used;
        return status;
    }

    /** 0 where "." is due next, 1 where ".." is, 2 where nodes are. */
    private int nextStage(Open o) {
        int stage = o.stage;
        if (stage == 0 && !o.matches(DOTS, 1)) {
            stage = 1;
        }
        if (stage == 1 && !o.matches(DOTS, 2)) {
            stage = 2;
        }
        return stage;
    }

    private Node entryNode(Open o, int stage) {
        if (stage == 0 || (stage == 1 && o.node.parent == NONE)) {
            return o.node;
        }
        if (stage == 1) {
            return live.node(o.node.parent);
        }
        Node least = null;
        for (int i = 0; i < NODES; i++) {
            Node n = live.node(i);
            if (n != null && n.parent == o.node.number && n.isBehind(o.lastName, o.lastLength)
                    && (least == null || least.isBehind(n.name, n.nameLength)) && o.matches(n.name, n.nameLength)) {
                least = n;
            }
        }
        return least;
    }

    private void putEntry(int at, int kind, Node n, byte[] name, int units) {
        int behind = at + 8;
        if (kind == 1) {
            n.tellTimes(answer, at + 8);
            answer.put(at + 40, 8, n.size);
            answer.put(at + 48, 8, n.room());
            answer.put(at + 56, 4, n.toldAttributes());
            behind = at + 60;
        }
        answer.put(behind, 4, 2 * units);
        for (int i = 0; i < units && i < name.length; i++) {
            answer.put(behind + 4 + 2 * i, 2, name[i]);
        }
    }

    private int queryInfo(Asked a, Open o) {
        int kind = (int) a.number(66, 1);
        int size = infoSize(kind, (int) a.number(67, 1));
        if (size == 0) {
            return INVALID_INFO_CLASS;
        }
        if (kind == 1 && (o.access & MAY_LOOK) == 0) {
            return ACCESS_DENIED;
        }
        if (a.number(68, 4) < size) {
            return INFO_LENGTH;
        }
        answer.begin(72 + size);
        answer.put(64, 2, 9);
        answer.put(66, 2, 72);
        answer.put(68, 4, size);
        if (kind == 2) {
            answer.put(72, 8, NODES);
            answer.put(80, 8, NODES - live.count);
            answer.put(88, 4, 1);
            answer.put(92, 4, 512);
            return OK;
        }
        if (size != 24) {
            o.node.tellTimes(answer, 72);
            answer.put(104, 4, o.node.toldAttributes());
        }
        if (size != 40) {
            o.node.tellStanding(answer, size == 24 ? 72 : 112);
        }
        if (size == 80) {
            answer.put(136, 8, o.node.number);
            answer.put(148, 4, o.access);
        }
        return OK;
    }

    /** How many bytes QUERY_INFO tells; 0: no such class. */
    private static int infoSize(int kind, int infoClass) {
        if (kind == 2) {
            return infoClass == 3 ? 24 : 0;
        }
        if (kind != 1) {
            return 0;
        }
        switch (infoClass) {
            case 4: return 40;
            case 5: return 24;
            case 18: return 80;
            default: return 0;
        }
    }

    private int setInfo(Asked a, Open o) {
        int kind = (int) a.number(66, 1);
        int infoClass = (int) a.number(67, 1);
        long many = a.number(68, 4);
        int at = (int) a.number(72, 2);
        int least = setSizeOf(infoClass);
        if (kind != 1 || least == 0) {
            return INVALID_INFO_CLASS;
        }
        if (many < least) {
            return INFO_LENGTH;
        }
        if ((o.access & setAccessOf(infoClass)) == 0) {
            return ACCESS_DENIED;
        }
        int status;
        switch (infoClass) {
            case 4: status = setValues(a, o, at); break;
            case 20: status = setSize(o, a.number(at, 8)); break;
            case 13: status = setToGo(o.node, a.number(at, 1) != 0); break;
            default: status = rename(a, o, at, many); break;
        }
        answer.begin(HEADER + 2);
        answer.put(64, 2, 2);
        return status;
    }

    /** How many bytes a class of SET_INFO has at least; 0: no such class. */
    private static int setSizeOf(int infoClass) {
        switch (infoClass) {
            case 4: return 40;
            case 20: return 8;
            case 13: return 1;
            case 10: return 20;
            default: return 0;
        }
    }

    private static int setAccessOf(int infoClass) {
        switch (infoClass) {
            case 4: return MAY_SET;
            case 20: return MAY_WRITE;
            default: return MAY_DELETE;
        }
    }

    private int setValues(Asked a, Open o, int at) {
        long made = a.number(at, 8);
        long looked = a.number(at + 8, 8);
        long written = a.number(at + 16, 8);
        long changed = a.number(at + 24, 8);
        int attributes = (int) a.number(at + 32, 4);
        Change r = nextChange(VALUES_SET, o.node);
        r.made = made == 0 ? r.made : made;
        r.looked = looked == 0 ? r.looked : looked;
        r.written = written == 0 ? r.written : written;
        r.changed = changed == 0 ? now : changed;
        r.attributes = attributes == 0 ? r.attributes : attributes & OF_FILES;
        done(r);
        return OK;
    }

    private int setSize(Open o, long size) {
        Node n = o.node;
        if (!below(size, SIZE_MOST + 1)) {
            return DISK_FULL;
        }
        if (n.directory) {
            return IS_A_DIRECTORY;
        }
        if (othersLock(o, Math.min(size, n.size), Math.abs(size - n.size), true)) {
            return LOCK_CONFLICT;
        }
        Change r = nextChange(SIZE_SET, n);
        r.size = (int) size;
        r.written = now;
        r.changed = now;
        done(r);
        breakLevelTwo(n, o);
        return OK;
    }

    private int setToGo(Node n, boolean toGo) {
        if (toGo && ((n.attributes & READONLY) != 0 || n.parent == NONE)) {
            return CANNOT_DELETE;
        }
        if (toGo && n.directory && live.holdsAny(n.number)) {
            return NOT_EMPTY;
        }
        n.toGo = toGo;
        return OK;
    }

    private int rename(Asked a, Open o, int at, long many) {
        Node n = o.node;
        long pathLength = a.number(at + 16, 4);
        if (20 + pathLength > many) {
            return INFO_LENGTH;
        }
        Wish path = new Wish();
        if (!path.takePath(a, at + 20, pathLength)) {
            return NAME_INVALID;
        }
        if (!walk(path, o.tree.root)) {
            return PATH_NOT_FOUND;
        }
        if (path.count == 0 || n.parent == NONE) {
            return ACCESS_DENIED;
        }
        if (live.isWithin(path.place, n)) {
            return INVALID_PARAMETER;
        }
        if (n.directory && isOpenedBelow(n)) {
            return ACCESS_DENIED;
        }
        if (path.found != null && path.found != n) {
            Node other = path.found;
            if (a.number(at, 1) == 0) {
                return NAME_COLLISION;
            }
            if (other.directory || isOpened(other) || (other.attributes & READONLY) != 0) {
                return ACCESS_DENIED;
            }
            done(nextChange(GONE, other));
        }
        Change r = nextChange(NAME_CHANGED, n);
        r.parent = path.place.number;
        path.nameTo(r);
        r.changed = now;
        done(r);
        return OK;
    }

    private boolean isOpenedBelow(Node n) {
        for (int i = 0; i < opens.size(); i++) {
            Node other = opens.get(i).node;
            if (other != n && live.isWithin(other, n)) {
                return true;
            }
        }
        return false;
    }

    // ---- units and numbers

    private static int upper(int unit) {
        return unit >= 'a' && unit <= 'z' ? unit - 32 : unit;
    }

    /** Whether a is below b, both without sign. */
    private static boolean below(long a, long b) {
        return (a ^ (1L << 63)) < (b ^ (1L << 63));
    }

    // ---- the parts

    /** Bytes, with numbers whose lowest byte stands first. */
    private static final class Row {
        byte[] bytes = new byte[64];
        int length;

        /** The row is so many 0s from now on. */
        void begin(int many) {
            int wanted = Math.max(0, many);
            if (wanted > bytes.length) {
                bytes = new byte[wanted + 64];
            }
            Arrays.fill(bytes, 0, wanted, (byte) 0);
            length = wanted;
        }

        void add(int value) {
            if (length >= bytes.length) {
                bytes = Arrays.copyOf(bytes, 2 * length + 64);
            }
            bytes[length] = (byte) value;
            length++;
        }

        void addHighestFirst(int value) {
            add(value >> 24);
            add(value >> 16);
            add(value >> 8);
            add(value);
        }

        /** The number of 1 .. 8 bytes at a place; bytes outside the row count 0. */
        long number(int at, int many) {
            long value = 0;
            for (int i = many - 1; i >= 0; i--) {
                int place = at + i;
                value <<= 8;
                if (place >= 0 && place < length && place < bytes.length) {
                    value |= bytes[place] & 255;
                }
            }
            return value;
        }

        void put(int at, int many, long value) {
            for (int i = 0; i < many; i++) {
                int place = at + i;
                if (place >= 0 && place < length && place < bytes.length) {
                    bytes[place] = (byte) (value >> (8 * i));
                }
            }
        }

        /** Puts a row behind this one, after 0s until 8 divides it, and links the answer at a place to it. */
        int chain(Row other, int before) {
            int at = length + 7 - (length + 7) % 8;
            int end = at + other.length;
            if (end > bytes.length) {
                bytes = Arrays.copyOf(bytes, 2 * end);
            }
            Arrays.fill(bytes, length, at, (byte) 0);
            System.arraycopy(other.bytes, 0, bytes, at, other.length);
            length = end;
            if (at > 0) {
                put(before + 20, 4, at - before);
            }
            return at;
        }
    }

    private static final class Conn {
        boolean there;
        boolean negotiated;
        final Row came = new Row();
        /** How long the message that comes is, when its first four bytes are there. */
        long size;
        final Row sent = new Row();
        final long[] free = new long[FREE_MOST];
        int freeCount;
        long highest;
        /** Where the request under way begins in what came. */
        int at;
        /** Where the last answer begins in those of the message. */
        int answerAt;
        /** What a RELATED request takes from the one before. */
        long beforeSession;
        long beforeTree;
        boolean beforeFile;
        long beforeLow;
        long beforeHigh;

        void begin() {
            there = true;
            negotiated = false;
            came.length = 0;
            sent.length = 0;
            free[0] = 0;
            freeCount = 1;
            highest = 0;
        }

        void vanish() {
            there = false;
            came.length = 0;
            sent.length = 0;
        }

        /** Whether what came is a message, looked at byte by byte; the first four tell its length, or are WRONG. */
        int frame() {
            if (came.length == 4) {
                size = came.number(1, 1) << 16 | came.number(2, 1) << 8 | came.number(3, 1);
                if (came.number(0, 1) != 0 || size < HEADER || size > MESSAGE_MOST) {
                    return WRONG;
                }
            }
            return came.length < 4 || came.length < 4 + size ? NOT_WHOLE : WHOLE;
        }

        /** Whether a command may come now with this ID, which is taken then. */
        boolean admits(int command, long id) {
            if (negotiated == (command == NEGOTIATE)) {
                return false;
            }
            if (command == CANCEL) {
                return true;
            }
            for (int i = 0; i < freeCount && i < free.length; i++) {
                if (free[i] == id) {
                    freeCount--;
                    free[i] = free[freeCount];
                    return true;
                }
            }
            return false;
        }

        int grant(int asked) {
            int many = Math.max(0, Math.min(Math.max(1, asked), free.length - freeCount));
            for (int i = 0; i < many; i++) {
                highest++;
                free[freeCount] = highest;
                freeCount++;
            }
            return many;
        }

        void tellFile(long low, long high) {
            beforeFile = true;
            beforeLow = low;
            beforeHigh = high;
        }

        /** Sends a message; what has no room, or nobody to come to, is lost. */
        void post(Row m) {
            int at = sent.length;
            int end = at + 4 + m.length;
            if (!there || m.length == 0 || end > OUT_MOST) {
                return;
            }
            if (end > sent.bytes.length) {
                sent.bytes = Arrays.copyOf(sent.bytes, 2 * end);
            }
            sent.bytes[at] = 0;
            sent.bytes[at + 1] = (byte) (m.length >> 16);
            sent.bytes[at + 2] = (byte) (m.length >> 8);
            sent.bytes[at + 3] = (byte) m.length;
            System.arraycopy(m.bytes, 0, sent.bytes, at + 4, m.length);
            sent.length = end;
        }
    }

    private static final class Session {
        final long serial;
        final Conn conn;
        final byte[] name = new byte[USER_MOST];
        final int nameLength;
        boolean ending;

        Session(long serial, Asked a) {
            this.serial = serial;
            conn = a.conn;
            nameLength = (int) Math.min(a.number(78, 2), USER_MOST);
            int at = (int) a.number(76, 2);
            for (int i = 0; i < nameLength; i++) {
                name[i] = (byte) a.number(at + i, 1);
            }
        }

        boolean isNamed(Asked a, int at, int many) {
            boolean same = many == nameLength;
            for (int i = 0; i < many && i < nameLength; i++) {
                same = same && name[i] == a.number(at + i, 1);
            }
            return same;
        }
    }

    private static final class TreeLink {
        final long serial;
        final Session session;
        final Node root;
        boolean ending;

        TreeLink(long serial, Session session, Node root) {
            this.serial = serial;
            this.session = session;
            this.root = root;
        }
    }

    private static final class Open {
        final long serial;
        final TreeLink tree;
        final Node node;
        int access;
        int share;
        boolean goneOnClose;
        boolean closing;
        int oplock;
        boolean broken;
        int brokenTo;
        long brokenSince;
        /** Null until a directory is listed the first time. */
        int[] pattern;
        int stage;
        /** A copy, as the node told last may go or change its name; 0 long ahead of all nodes. */
        final byte[] lastName = new byte[NAME_MOST];
        int lastLength;

        Open(long serial, TreeLink tree, Node node) {
            this.serial = serial;
            this.tree = tree;
            this.node = node;
        }

        void takePattern(Asked a, int at, int units) {
            int many = Math.max(0, units);
            pattern = new int[many == 0 ? 1 : many];
            pattern[0] = '*';
            for (int i = 0; i < many; i++) {
                pattern[i] = (int) a.number(at + 2 * i, 2);
            }
            stage = 0;
            lastLength = 0;
        }

        void goBehind(int toldStage, Node n) {
            stage = Math.min(toldStage + 1, 2);
            if (toldStage == 2) {
                lastLength = Math.min(n.nameLength, lastName.length);
                System.arraycopy(n.name, 0, lastName, 0, lastLength);
            }
        }

        /** Bit i of can: what of the pattern was looked at can be the name's first i units. */
        boolean matches(byte[] name, int length) {
            if (pattern == null || length < 0 || length > name.length || length > NAME_MOST) {
                return false;
            }
            int can = 1;
            for (int p = 0; p < pattern.length; p++) {
                boolean any = pattern[p] == '*';
                int next = any ? can & 1 : 0;
                for (int i = 0; i < length; i++) {
                    boolean fits = pattern[p] == '?' || upper(pattern[p]) == upper(name[i]);
                    boolean reached = any ? ((can >> (i + 1) | next >> i) & 1) != 0 : fits && (can >> i & 1) != 0;
                    next |= reached ? 1 << (i + 1) : 0;
                }
                can = next;
            }
            return (can >> length & 1) != 0;
        }
    }

    private static final class Lock {
        final Open open;
        final long from;
        final long many;
        final boolean shared;

        Lock(Open open, long from, long many, boolean shared) {
            this.open = open;
            this.from = from;
            this.many = many;
            this.shared = shared;
        }

        boolean meets(long otherFrom, long otherMany) {
            if (many == 0 || otherMany == 0) {
                return false;
            }
            long otherLast = otherFrom + otherMany - 1;
            // what would go on behind the last number ends there
            boolean wraps = below(otherLast, otherFrom);
            return !below(from + many - 1, otherFrom) && (wraps || !below(otherLast, from));
        }
    }

    private static final class Node {
        final int number;
        boolean used;
        boolean directory;
        /** Not on the disk: who made it so is gone after a crash. */
        boolean toGo;
        int parent = NONE;
        final byte[] name = new byte[NAME_MOST];
        int nameLength;
        int attributes;
        long made;
        long looked;
        long written;
        long changed;
        int size;
        byte[] data = new byte[0];

        Node(int number) {
            this.number = number;
        }

        int toldAttributes() {
            int all = attributes | (directory ? TOLD_DIRECTORY : 0);
            return all == 0 ? TOLD_NOTHING : all;
        }

        int room() {
            return size + 511 - (size + 511) % 512;
        }

        int byteAt(int i) {
            return i >= 0 && i < size && i < data.length ? data[i] : 0;
        }

        void tellTimes(Row m, int at) {
            m.put(at, 8, made);
            m.put(at + 8, 8, looked);
            m.put(at + 16, 8, written);
            m.put(at + 24, 8, changed);
        }

        /** As CREATE and CLOSE tell it. */
        void tellAll(Row m) {
            m.put(72, 8, made);
            m.put(80, 8, looked);
            m.put(88, 8, written);
            m.put(96, 8, changed);
            m.put(104, 8, room());
            m.put(112, 8, size);
            m.put(120, 4, toldAttributes());
        }

        void tellStanding(Row m, int at) {
            m.put(at, 8, room());
            m.put(at + 8, 8, size);
            m.put(at + 16, 4, toGo ? 0 : 1);
            m.put(at + 20, 1, toGo ? 1 : 0);
            m.put(at + 21, 1, directory ? 1 : 0);
        }

        /** Whether its NAME comes behind another one. */
        boolean isBehind(byte[] other, int length) {
            int both = Math.min(nameLength, length);
            for (int i = 0; i < both && i < name.length && i < other.length; i++) {
                int difference = upper(name[i]) - upper(other[i]);
                if (difference != 0) {
                    return difference > 0;
                }
            }
            return nameLength > length;
        }

        void copyFrom(Node n) {
            used = n.used;
            directory = n.directory;
            toGo = false;
            parent = n.parent;
            nameLength = n.nameLength;
            System.arraycopy(n.name, 0, name, 0, name.length);
            attributes = n.attributes;
            made = n.made;
            looked = n.looked;
            written = n.written;
            changed = n.changed;
            size = n.size;
            if (data.length < size) {
                data = new byte[n.data.length];
            }
            System.arraycopy(n.data, 0, data, 0, size);
        }
    }

    /** A change of a tree: all that its node is when it has been done. */
    private static final class Change {
        int kind;
        int node;
        int parent;
        boolean directory;
        final byte[] name = new byte[NAME_MOST];
        int nameLength;
        int attributes;
        long made;
        long looked;
        long written;
        long changed;
        int size;
        int from;
        int many;
        byte[] bytes = new byte[0];

        void fill(int kind, Node n) {
            this.kind = kind;
            node = n.number;
            parent = n.parent;
            directory = n.directory;
            nameLength = n.nameLength;
            System.arraycopy(n.name, 0, name, 0, name.length);
            attributes = n.attributes;
            made = n.made;
            looked = n.looked;
            written = n.written;
            changed = n.changed;
            size = n.size;
            from = 0;
            many = 0;
        }

        void beginNode(int place, boolean isDirectory, int with, long now) {
            parent = place;
            directory = isDirectory;
            attributes = with;
            made = now;
            looked = now;
            written = now;
            changed = now;
            size = 0;
        }

        void takeBytes(Asked a, int at, int howMany, int where) {
            from = Math.max(0, where);
            many = Math.max(0, Math.min(howMany, PIECE_MOST));
            size = Math.max(size, from + many);
            if (bytes.length < many) {
                bytes = new byte[many];
            }
            for (int i = 0; i < many; i++) {
                bytes[i] = (byte) a.number(at + i, 1);
            }
        }
    }

    /** A tree of nodes: the one that is used, or the one on the disk. */
    private static final class Volume {
        private final Node[] nodes = new Node[NODES];
        int count;

        Volume() {
            for (int i = 0; i < nodes.length; i++) {
                nodes[i] = new Node(i);
            }
        }

        /** Null: there is none with this number. */
        Node node(int number) {
            return number >= 0 && number < nodes.length && nodes[number].used ? nodes[number] : null;
        }

        /** The node that has the least free number; null: there is none. */
        Node free() {
            for (int i = 0; i < nodes.length; i++) {
                if (!nodes[i].used) {
                    return nodes[i];
                }
            }
            return null;
        }

        /** The node of a directory whose NAME stands in a path from a unit up to another one; null: none. */
        Node child(int directory, Wish path, int begin, int end) {
            for (int i = 0; i < nodes.length; i++) {
                Node n = nodes[i];
                boolean same = n.used && n.parent == directory && n.nameLength == end - begin;
                for (int j = 0; same && j < n.nameLength && j < n.name.length; j++) {
                    same = upper(path.unit(begin + j)) == upper(n.name[j]);
                }
                if (same) {
                    return n;
                }
            }
            return null;
        }

        boolean holdsAny(int directory) {
            for (int i = 0; i < nodes.length; i++) {
                if (nodes[i].used && nodes[i].parent == directory) {
                    return true;
                }
            }
            return false;
        }

        /** Whether a node is another one, or below it. */
        boolean isWithin(Node n, Node other) {
            Node up = n;
            for (int i = 0; i <= nodes.length && up != null; i++) {
                if (up == other) {
                    return true;
                }
                up = node(up.parent);
            }
            return false;
        }

        void apply(Change r) {
            if (r.node < 0 || r.node >= nodes.length) {
                return;
            }
            Node n = nodes[r.node];
            count += (r.kind != GONE ? 1 : 0) - (n.used ? 1 : 0);
            n.used = r.kind != GONE;
            if (r.kind == MADE) {
                n.size = 0;
                n.toGo = false;
            }
            n.directory = r.directory;
            n.parent = r.parent;
            n.nameLength = r.nameLength;
            System.arraycopy(r.name, 0, n.name, 0, n.name.length);
            n.attributes = r.attributes;
            n.made = r.made;
            n.looked = r.looked;
            n.written = r.written;
            n.changed = r.changed;
            int size = Math.max(0, Math.min(r.size, SIZE_MOST));
            if (size > n.data.length) {
                n.data = Arrays.copyOf(n.data, size + PIECE_MOST - 1 - (size - 1) % PIECE_MOST);
            }
            if (size > n.size) {
                Arrays.fill(n.data, n.size, size, (byte) 0);
            }
            n.size = size;
            boolean fits = r.from >= 0 && r.many >= 0 && r.from + r.many <= size && r.many <= r.bytes.length;
            if (r.kind == BYTES_PUT && fits) {
                System.arraycopy(r.bytes, 0, n.data, r.from, r.many);
            }
        }

        void copyFrom(Volume other) {
            for (int i = 0; i < nodes.length; i++) {
                nodes[i].copyFrom(other.nodes[i]);
            }
            count = other.count;
        }
    }

    /** A request: its header, what was found by it, and what it waits for. */
    private static final class Asked {
        final Conn conn;
        final int start;
        final int length;
        final long next;
        final int charge;
        final int command;
        final int credits;
        final long flags;
        final long id;
        final long process;
        long tree;
        long session;
        final boolean fileBefore;
        Session by;
        TreeLink through;
        Open open;
        long async;
        /** What a create asks and the node it waits for; again: it is to be done again. */
        Wish wish;
        Node node;
        boolean again;
        /** The lock that a request waits for. */
        Lock lock;

        Asked(Conn k) {
            conn = k;
            start = k.at;
            int rest = Math.max(0, k.came.length - start);
            next = k.came.number(start + 20, 4);
            length = next == 0 ? rest : (int) Math.min(next, rest);
            charge = (int) k.came.number(start + 6, 2);
            command = (int) k.came.number(start + 12, 2);
            credits = (int) k.came.number(start + 14, 2);
            flags = k.came.number(start + 16, 4);
            id = k.came.number(start + 24, 8);
            process = k.came.number(start + 32, 4);
            boolean follows = (flags & IS_RELATED) != 0;
            tree = follows ? k.beforeTree : k.came.number(start + 36, 4);
            session = follows ? k.beforeSession : k.came.number(start + 40, 8);
            fileBefore = follows && k.beforeFile;
        }

        boolean related() {
            return (flags & IS_RELATED) != 0;
        }

        boolean last() {
            return next == 0;
        }

        /** The number at a place, told from the header's beginning on. */
        long number(int at, int many) {
            return conn.came.number(start + at, many);
        }

        /** Whether the header is one that a request may have. */
        boolean stands() {
            int rest = conn.came.length - start;
            boolean linked = next == 0 || (next % 8 == 0 && next >= HEADER && next <= rest - HEADER);
            boolean first = start == 4;
            return rest >= HEADER && number(0, 4) == MAGIC && number(4, 2) == HEADER && (flags & IS_ANSWER) == 0
                    && linked && !(first && related());
        }

        /** Whether what the body tells to stand somewhere lies in the request, behind the header. */
        boolean holdsWhatItTells() {
            switch (command) {
                case SESSION_SETUP: return holds(number(76, 2), number(78, 2));
                case TREE_CONNECT: return holds(number(68, 2), number(70, 2));
                case CREATE: return holds(number(108, 2), number(110, 2));
                case WRITE: return number(68, 4) <= PIECE_MOST && holds(number(66, 2), number(68, 4));
                case QUERY_DIRECTORY: return holds(number(88, 2), number(90, 2));
                case SET_INFO: return holds(number(72, 2), number(68, 4));
                default: return true;
            }
        }

        private boolean holds(long at, long many) {
            return many == 0 || (at >= HEADER && at + many <= length);
        }
    }

    /** What a create wants; of a change of name its path alone. */
    private static final class Wish {
        int oplock;
        int access;
        int attributes;
        int share;
        int disposition;
        boolean directory;
        boolean fileAlone;
        boolean goneOnClose;
        private int[] units = new int[0];
        int count;
        /** The directory that has, or would have, the node of the path; found: the node, if it is there. */
        Node place;
        Node found;
        int nameAt;

        void takeOptions(int options) {
            directory = (options & 0x1) != 0;
            fileAlone = (options & 0x40) != 0;
            goneOnClose = (options & 0x1000) != 0;
        }

        void takeAccess(int asked) {
            int all = asked;
            all |= (asked & 0x80000000) != 0 ? 0x00120089 : 0;
            all |= (asked & 0x40000000) != 0 ? 0x00120116 : 0;
            all |= (asked & 0x20000000) != 0 ? 0x001200A0 : 0;
            all |= (asked & 0x12000000) != 0 ? ALL_ACCESS : 0;
            access = all & ALL_ACCESS;
        }

        /** Whether a file that is there is emptied. */
        boolean empties() {
            return disposition == 0 || disposition == 4 || disposition == 5;
        }

        int newAttributes() {
            return directory ? attributes & OF_DIRECTORIES : attributes & OF_FILES | ARCHIVE;
        }

        int unit(int i) {
            return i >= 0 && i < count && i < units.length ? units[i] : 0;
        }

        /** Reads it from a request; false: it is no path. */
        boolean takePath(Asked a, int at, long bytes) {
            if (bytes % 2 != 0 || bytes < 0 || bytes > PATH_MOST) {
                return false;
            }
            count = (int) bytes / 2;
            units = new int[count];
            int begin = 0;
            boolean fits = true;
            for (int i = 0; i < count; i++) {
                units[i] = (int) a.number(at + 2 * i, 2);
                if (units[i] == PARTING) {
                    fits = fits && isName(begin, i);
                    begin = i + 1;
                }
            }
            return fits && (count == 0 || isName(begin, count));
        }

        private boolean isName(int begin, int end) {
            int many = end - begin;
            if (many < 1 || many > NAME_MOST) {
                return false;
            }
            boolean dots = many <= 2;
            for (int i = begin; i < end; i++) {
                int u = unit(i);
                if (u < 32 || u > 126 || NOT_IN_NAMES.indexOf((char) u) >= 0) {
                    return false;
                }
                dots = dots && u == '.';
            }
            return !dots;
        }

        /** Puts the last NAME into a record. */
        void nameTo(Change r) {
            r.nameLength = Math.max(0, Math.min(count - nameAt, r.name.length));
            for (int i = 0; i < r.nameLength; i++) {
                r.name[i] = (byte) unit(nameAt + i);
            }
        }
    }
}
