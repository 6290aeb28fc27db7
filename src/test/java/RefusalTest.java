/** "What is refused changes nothing": each refusal of a request, in a house where much could be changed. */
public final class RefusalTest {
    private static final int ALL = Peer.ALL;

    private RefusalTest() {
    }

    public static void main(String[] args) {
        general();
        sessions();
        creates();
        createsOfWhatIsThere();
        files();
        locks();
        oplocks();
        lists();
        infos();
        renames();
        Check.end("RefusalTest");
    }

    /**
     * Opens 1 of f by the first and 2 by the second, with LEVEL II both; 3 of d, which has a file x in it, and is listed in
     * part; 4 of g, with EXCLUSIVE; 5 of f with LOOK alone; RECORDS wait.
     */
    private static Peer[] past() {
        Wire w = new Wire();
        w.share(0, "DATA");
        Peer[] p = {Peer.on(w, 0), Peer.on(w, 1)};
        p[0].open("f", 1);
        p[1].open("f", 1);
        p[0].openDirectory("d");
        p[0].open("g", 8);
        p[0].ask(Peer.shortCreate("f", 0x80, 7, 1, 0, 0));
        p[0].ask(Peer.shortCreate("d\\x", 0x80, 7, 3, 0, 0));
        p[0].ask(Peer.close(6));
        p[0].ask(Peer.list(3, 12, 2, "*", 100));
        w.house.tick(5);
        p[0].ask(Peer.write(1, 0, "0123456789"));
        p[1].news();
        return p;
    }

    /** As past(), but f has locks: bytes 2 and 3 EXCLUSIVE by the first, 6 and 7 SHARED by the second. */
    private static Peer[] locked() {
        Peer[] p = past();
        p[0].ask(Peer.lock(1, 2, 2, 2));
        p[1].ask(Peer.lock(2, 6, 2, 1));
        p[0].news();
        p[1].news();
        return p;
    }

    private static void refused(String what, Req r, int status) {
        Twin.refused(what, RefusalTest::past, 0, r, status);
    }

    private static void refusedLocked(String what, Req r, int status) {
        Twin.refused(what, RefusalTest::locked, 0, r, status);
    }

    private static void general() {
        refused("NOT_SUPPORTED", new Req(11), Status.NOT_SUPPORTED);
        refused("a body too short", Peer.close(1).length(87), Status.INVALID_PARAMETER);
        refused("another size", Peer.setToGo(1, 1).put(64, 2, 34), Status.INVALID_PARAMETER);
        refused("not within", Peer.write(1, 0, "abc").put(68, 4, 4), Status.INVALID_PARAMETER);
        refused("no such FILE", Peer.close(9), Status.FILE_CLOSED);
        refused("another's FILE", Peer.close(2), Status.FILE_CLOSED);
        refused("another's FILE, to go", Peer.setToGo(2, 1), Status.FILE_CLOSED);
        refused("LOGOFF with another size", Peer.logOff().put(64, 2, 5), Status.INVALID_PARAMETER);
        refused("TREE_DISCONNECT with another size", Peer.treeOff().put(64, 2, 5), Status.INVALID_PARAMETER);
    }

    private static void sessions() {
        refused("no name", Peer.setUp("", 1), Status.INVALID_PARAMETER);
        refused("17 bytes", Peer.setUp("12345678901234567", 1), Status.INVALID_PARAMETER);
        refused("a blank", Peer.setUp("a b", 1), Status.INVALID_PARAMETER);
        refused("BAD_SHARE", Peer.tree("NONE"), Status.BAD_SHARE);
        refused("odd", Peer.tree("DATA").put(70, 2, 7), Status.INVALID_PARAMETER);
    }

    private static Req create(String path, long access, int share, int disposition, int options) {
        return Peer.create(path, access, share, disposition, options, 9);
    }

    private static void creates() {
        refused("SHARE 8", create("n", ALL, 8, 3, 0), Status.INVALID_PARAMETER);
        refused("DISPOSITION 6", create("n", ALL, 7, 6, 0), Status.INVALID_PARAMETER);
        refused("1 and 40", create("n", ALL, 7, 3, 0x41), Status.INVALID_PARAMETER);
        refused("1 and DISPOSITION 5", create("n", ALL, 7, 5, 1), Status.INVALID_PARAMETER);
        refused("no ACCESS", create("n", 0, 7, 3, 0), Status.ACCESS_DENIED);
        refused("GONE ON CLOSE", create("f", 1, 7, 3, 0x1000), Status.ACCESS_DENIED);
        refused("NAME_INVALID", create("n*", ALL, 7, 3, 0), Status.NAME_INVALID);
        refused("PATH_NOT_FOUND", create("n\\m", ALL, 7, 3, 0), Status.PATH_NOT_FOUND);
        refused("NAME_NOT_FOUND by 1", create("n", ALL, 7, 1, 0), Status.NAME_NOT_FOUND);
        refused("NAME_NOT_FOUND by 4", create("n", ALL, 7, 4, 0), Status.NAME_NOT_FOUND);
    }

    private static void createsOfWhatIsThere() {
        refused("NAME_COLLISION", create("f", ALL, 7, 2, 0), Status.NAME_COLLISION);
        refused("NAME_COLLISION of g", create("g", ALL, 7, 2, 0), Status.NAME_COLLISION);
        refused("IS_A_DIRECTORY", create("d", ALL, 7, 5, 0), Status.IS_A_DIRECTORY);
        refused("NOT_A_DIRECTORY", create("g", ALL, 7, 3, 1), Status.NOT_A_DIRECTORY);
        refused("CANNOT_DELETE", create("", ALL, 7, 3, 0x1000), Status.CANNOT_DELETE);
        refused("SHARING, not emptied", create("f", ALL, 0, 5, 0), Status.SHARING);
        refused("SHARING of a directory", create("d", ALL, 0, 3, 0x1000), Status.SHARING);
        refused("SHARING ahead of EXCLUSIVE", create("g", ALL, 0, 4, 0), Status.SHARING);
        Twin.Past readonly = () -> {
            Peer[] p = past();
            p[0].ask(Peer.setValues(1, 0, 0, 0, 0, 1));
            return p;
        };
        Twin.refused("READONLY", readonly, 1, create("f", 2, 7, 1, 0), Status.ACCESS_DENIED);
        Twin.refused("READONLY, not emptied", readonly, 1, create("f", 1, 7, 0, 0), Status.ACCESS_DENIED);
        Twin.refused("READONLY, GONE ON CLOSE", readonly, 1, create("f", 0x10000, 7, 1, 0x1000), Status.CANNOT_DELETE);
        Twin.Past going = () -> {
            Peer[] p = past();
            p[0].ask(Peer.setToGo(1, 1));
            return p;
        };
        Twin.refused("DELETE_PENDING", going, 1, create("f", ALL, 7, 5, 0), Status.DELETE_PENDING);
    }

    private static void files() {
        refused("FLUSH", Peer.flush(5), Status.ACCESS_DENIED);
        refused("READ of 1025", Peer.read(1, 0, 1025), Status.INVALID_PARAMETER);
        refused("READ at the end", Peer.read(1, 10, 1), Status.END_OF_FILE);
        refused("READ of a directory", Peer.read(3, 0, 1), Status.IS_A_DIRECTORY);
        refused("READ without READ", Peer.read(5, 0, 1), Status.ACCESS_DENIED);
        refused("WRITE of 1025", Peer.write(1, 0, "x".repeat(1025)), Status.INVALID_PARAMETER);
        refused("WRITE to a directory", Peer.write(3, 0, "x"), Status.IS_A_DIRECTORY);
        refused("WRITE without WRITE", Peer.write(5, 0, "x"), Status.ACCESS_DENIED);
        refused("WRITE above 4096", Peer.write(1, 4090, "1234567"), Status.DISK_FULL);
        refusedLocked("WRITE over another's lock", Peer.write(1, 5, "xyz"), Status.LOCK_CONFLICT);
        Twin.refused("WRITE over an EXCLUSIVE one", RefusalTest::locked, 1, Peer.write(2, 0, "wxyz"), Status.LOCK_CONFLICT);
        Twin.refused("WRITE over its own SHARED", RefusalTest::locked, 1, Peer.write(2, 7, "xyz"), Status.LOCK_CONFLICT);
    }

    private static void locks() {
        refused("none", Peer.lock(1).length(112), Status.INVALID_PARAMETER);
        refused("nine", Peer.lock(1, new long[27]), Status.INVALID_PARAMETER);
        refused("FLAGS", Peer.lock(1, 0, 1, 3), Status.INVALID_PARAMETER);
        refused("two, the second not at once", Peer.lock(1, 0, 1, 0x12, 1, 1, 2), Status.INVALID_PARAMETER);
        refused("above 2^64", Peer.lock(1, 0, 1, 0x12, -1L, 2, 0x12), Status.INVALID_PARAMETER);
        refused("of a directory", Peer.lock(3, 0, 1, 2), Status.IS_A_DIRECTORY);
        refused("without ACCESS", Peer.lock(5, 0, 1, 2), Status.ACCESS_DENIED);
        refused("RANGE_NOT_LOCKED", Peer.lock(1, 0, 1, 4), Status.RANGE_NOT_LOCKED);
        refusedLocked("RANGE_NOT_LOCKED, the first", Peer.lock(1, 2, 1, 4, 2, 2, 4), Status.RANGE_NOT_LOCKED);
        refusedLocked("UNLOCK and others", Peer.lock(1, 2, 2, 4, 0, 1, 0x12), Status.INVALID_PARAMETER);
        refusedLocked("LOCK_NOT_GRANTED", Peer.lock(1, 2, 1, 0x11), Status.LOCK_NOT_GRANTED);
        refusedLocked("LOCK_NOT_GRANTED, the last", Peer.lock(1, 0, 1, 0x12, 9, 1, 0x12, 6, 1, 0x12),
                Status.LOCK_NOT_GRANTED);
    }

    private static void oplocks() {
        refused("EXCLUSIVE, not BROKEN", Peer.answerBreak(4, 0), Status.OPLOCK_PROTOCOL);
        refused("LEVEL II", Peer.answerBreak(1, 0), Status.OPLOCK_PROTOCOL);
        refused("none", Peer.answerBreak(5, 0), Status.OPLOCK_PROTOCOL);
    }

    private static void lists() {
        refused("room", Peer.list(3, 12, 1, "q", 1025), Status.INVALID_PARAMETER);
        refused("no directory", Peer.list(1, 12, 1, "q", 100), Status.INVALID_PARAMETER);
        refused("class", Peer.list(3, 2, 1, "q", 100), Status.INVALID_INFO_CLASS);
        refused("ANEW, above 40", Peer.list(3, 12, 1, "q".repeat(21), 100), Status.NAME_INVALID);
        refused("ANEW, odd", Peer.list(3, 12, 1, "qq", 100).put(90, 2, 3), Status.NAME_INVALID);
        refused("no room", Peer.list(3, 12, 0, "", 15), Status.INFO_LENGTH);
    }

    private static void infos() {
        refused("QUERY_INFO class", Peer.info(1, 1, 6, 100), Status.INVALID_INFO_CLASS);
        refused("QUERY_INFO room", Peer.info(1, 1, 18, 79), Status.INFO_LENGTH);
        refused("SET_INFO class", Peer.set(1, 5, new byte[40]), Status.INVALID_INFO_CLASS);
        refused("SET_INFO 4, too short", Peer.set(1, 4, new byte[39]), Status.INFO_LENGTH);
        refused("SET_INFO 4 without SET", Peer.setValues(5, 1, 1, 1, 1, 1), Status.ACCESS_DENIED);
        refused("SET_INFO 20, too short", Peer.set(1, 20, new byte[7]), Status.INFO_LENGTH);
        refused("SET_INFO 20 without WRITE", Peer.setSize(5, 0), Status.ACCESS_DENIED);
        refused("SET_INFO 20 above 4096", Peer.setSize(1, 4097), Status.DISK_FULL);
        refused("SET_INFO 20 of a directory", Peer.setSize(3, 0), Status.IS_A_DIRECTORY);
        refusedLocked("SET_INFO 20 over a lock", Peer.setSize(1, 7), Status.LOCK_CONFLICT);
        refused("SET_INFO 13, too short", Peer.set(1, 13, new byte[0]), Status.INFO_LENGTH);
        refused("SET_INFO 13 without DELETE", Peer.setToGo(5, 1), Status.ACCESS_DENIED);
        refused("SET_INFO 13, something in it", Peer.setToGo(3, 1), Status.NOT_EMPTY);
    }

    private static void renames() {
        refused("too short", Peer.set(1, 10, new byte[19]), Status.INFO_LENGTH);
        refused("not all there", Peer.rename(1, 1, "n").put(112, 4, 4), Status.INFO_LENGTH);
        refused("without DELETE", Peer.rename(5, 1, "n"), Status.ACCESS_DENIED);
        refused("NAME_INVALID", Peer.rename(1, 1, "n*"), Status.NAME_INVALID);
        refused("PATH_NOT_FOUND", Peer.rename(1, 1, "n\\m"), Status.PATH_NOT_FOUND);
        refused("the root", Peer.rename(1, 1, ""), Status.ACCESS_DENIED);
        refused("NAME_COLLISION", Peer.rename(1, 0, "d\\x"), Status.NAME_COLLISION);
        refused("a directory's place", Peer.rename(1, 1, "d"), Status.ACCESS_DENIED);
        refused("an open one's place", Peer.rename(1, 1, "g"), Status.ACCESS_DENIED);
        refused("into itself", Peer.rename(3, 1, "d\\n"), Status.INVALID_PARAMETER);
        Twin.Past below = () -> {
            Peer[] p = past();
            p[1].ask(Peer.shortCreate("d\\x", 0x80, 7, 3, 0, 0));
            return p;
        };
        Twin.refused("open below", below, 0, Peer.rename(3, 1, "n"), Status.ACCESS_DENIED);
        Twin.Past readonly = () -> {
            Peer[] p = past();
            p[1].ask(Peer.create("r", 0x80, 7, 3, 0, 0).put(92, 4, 1));
            p[1].ask(Peer.close(7));
            return p;
        };
        Twin.refused("a READONLY one's place", readonly, 0, Peer.rename(1, 1, "r"), Status.ACCESS_DENIED);
    }
}
