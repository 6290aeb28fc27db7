/** Part 4, CLOSE, FLUSH, READ, WRITE: each edge that they name. */
public final class FileEdgeTest {
    private static final int ALL = Peer.ALL;

    private FileEdgeTest() {
    }

    public static void main(String[] args) {
        closeTellsWhatItWas();
        closeTellsNothing();
        roomIsDividedBy512();
        closeGivesUpLocks();
        goneOnClose();
        theLastOpenOfANode();
        directoriesWithSomething();
        closeMakesRecordsCome();
        locksThenCreates();
        flushNeedsWriteOrAppend();
        readAbove1024();
        readAtTheEnd();
        readOfNone();
        readAtLeast();
        readNeedsRead();
        readMeetsLocks();
        orderOfRead();
        lookedAtStays();
        writeAbove1024();
        writeAppends();
        writeMeetsLocks();
        writeAbove4096();
        writeOfNone();
        writeBehindTheEnd();
        orderOfWrite();
        Check.end("FileEdgeTest");
    }

    private static Peer[] two() {
        Wire w = new Wire();
        w.share(0, "DATA");
        return new Peer[] {Peer.on(w, 0), Peer.on(w, 1)};
    }

    /** "66 (2) FLAGS' 1; with that 72 made, .. (as they were before it went)". */
    private static void closeTellsWhatItWas() {
        Peer p = Peer.fresh();
        p.open("f");
        p.ask(Peer.write(1, 0, "x".repeat(513)));
        p.ask(Peer.setValues(1, 11, 12, 13, 14, 6));
        p.ask(Peer.setToGo(1, 1));
        Answer a = p.ask(Peer.close(1).put(66, 2, 0x8001));
        Check.eq("length", a.length(), 124);
        Check.eq("60", a.n(64, 2), 60);
        Check.eq("FLAGS' 1", a.n(66, 2), 1);
        for (int i = 0; i < 4; i++) {
            Check.eq("TIMES", a.n(72 + 8 * i, 8), 11 + i);
        }
        Check.eq("room", a.n(104, 8), 1024);
        Check.eq("SIZE", a.n(112, 8), 513);
        Check.eq("ATTRIBUTES", a.n(120, 4), 6);
        Check.eq("it went", p.wire.house.told(2), 1);
    }

    /** "else 0; 60 bytes long". */
    private static void closeTellsNothing() {
        for (int flags : new int[] {0, 2, 0xFFFE}) {
            Peer p = Peer.fresh();
            p.wire.house.tick(5);
            p.open("f");
            Answer a = p.ask(Peer.close(1).put(66, 2, flags));
            Check.eq("length", a.length(), 124);
            Check.eq("60", a.n(64, 4), 60);
            for (int at = 68; at < 124; at += 4) {
                Check.eq("0 at " + at, a.n(at, 4), 0);
            }
        }
    }

    /** "room (SIZE up to what 512 divides; 0 of DIRECTORIES)". */
    private static void roomIsDividedBy512() {
        Peer p = Peer.fresh();
        p.open("f");
        int[][] sizes = {{0, 0}, {1, 512}, {511, 512}, {512, 512}, {513, 1024}, {1024, 1024}, {4095, 4096}, {4096, 4096}};
        for (int[] x : sizes) {
            p.ask(Peer.setSize(1, x[0]));
            Answer a = p.ask(Peer.info(1, 1, 5, 24));
            Check.eq("room of " + x[0], a.n(72, 8), x[1]);
            Check.eq("SIZE " + x[0], a.n(80, 8), x[0]);
        }
        Check.eq("CREATE tells it", p.ask(Peer.create("f", ALL, 7, 1, 0, 0)).n(104, 8), 4096);
        Check.eq("of a directory", p.ask(Peer.create("", ALL, 7, 1, 0, 0)).n(104, 8), 0);
    }

    /** "What of it WAITS is given up as CANCELLED; its locks go". */
    private static void closeGivesUpLocks() {
        Peer[] p = two();
        p[0].open("f");
        p[0].open("f");
        p[1].open("f");
        p[0].ask(Peer.lock(1, 0, 1, 2, 5, 1, 0x12).put(66, 2, 1));
        p[0].ask(Peer.lock(2, 5, 1, 2));
        p[0].ask(Peer.lock(1, 5, 1, 2));
        p[1].ask(Peer.lock(3, 0, 1, 2));
        p[0].ask(Peer.lock(1, 5, 1, 1));
        Check.eq("three wait", p[0].wire.house.told(5), 3);
        Check.eq("two locks", p[0].wire.house.told(4), 2);
        Check.eq("CLOSE", p[0].status(Peer.close(1)), Status.OK);
        Check.eq("two are given up", p[0].notes.size(), 2);
        Check.eq("the elder", p[0].notes.get(0).async(), 1);
        Check.eq("CANCELLED", p[0].notes.get(0).status(), Status.CANCELLED);
        Check.eq("the younger", p[0].notes.get(1).async(), 3);
        Check.eq("CANCELLED, too", p[0].notes.get(1).status(), Status.CANCELLED);
        Check.eq("the other has its lock", p[1].news().get(0).status(), Status.OK);
        Check.eq("locks", p[0].wire.house.told(4), 2);
        Check.eq("none waits", p[0].wire.house.told(5), 0);
    }

    /** "if it was GONE ON CLOSE the node is to go". */
    private static void goneOnClose() {
        Peer p = Peer.fresh();
        p.ask(Peer.create("f", ALL, 7, 3, 0x1000, 0));
        p.open("f");
        p.open("f");
        Check.eq("not yet", p.ask(Peer.info(2, 1, 5, 24)).n(92, 1), 0);
        p.ask(Peer.close(3));
        Check.eq("not by another", p.ask(Peer.info(2, 1, 5, 24)).n(92, 1), 0);
        p.ask(Peer.close(1));
        Check.eq("to go", p.ask(Peer.info(2, 1, 5, 24)).n(92, 1), 1);
        Check.eq("and 0 in place of 1", p.ask(Peer.info(2, 1, 5, 24)).n(88, 4), 0);
        Check.eq("it is there still", p.wire.house.told(2), 2);
        p.ask(Peer.close(2));
        Check.eq("gone", p.wire.house.told(2), 1);
        Check.eq("on the disk, too", p.wire.house.told(8), 1);
        p.ask(Peer.create("r", ALL, 7, 3, 0x1000, 0));
        p.ask(Peer.setValues(4, 0, 0, 0, 0, 1));
        p.ask(Peer.close(4));
        Check.eq("READONLY by then: it goes", p.wire.house.told(2), 1);
    }

    /** "if it was the last open of a node that is to go, the node goes". */
    private static void theLastOpenOfANode() {
        Peer[] p = two();
        p[0].open("f");
        p[1].open("f");
        p[0].ask(Peer.setToGo(1, 1));
        p[0].ask(Peer.close(1));
        Check.eq("not the last", p[0].wire.house.told(2), 2);
        Check.eq("it is read still", p[1].status(Peer.read(2, 0, 0)), Status.OK);
        p[1].ask(Peer.close(2));
        Check.eq("the last", p[0].wire.house.told(2), 1);
        p[0].open("f");
        p[0].ask(Peer.close(3));
        Check.eq("one that is not to go stays", p[0].wire.house.told(2), 2);
    }

    /** "(a DIRECTORY with something in it does not, and is not to go any more)". */
    private static void directoriesWithSomething() {
        Peer p = Peer.fresh();
        p.ask(Peer.create("d", ALL, 7, 3, 0x1001, 0));
        p.open("d\\x");
        p.ask(Peer.close(1));
        Check.eq("it stays", p.wire.house.told(2), 3);
        Check.eq("not to go any more", p.ask(Peer.info(p.openDirectory("d"), 1, 5, 24)).n(88, 5), 1);
        p.ask(Peer.setToGo(2, 1));
        p.ask(Peer.close(2));
        p.ask(Peer.close(3));
        Check.eq("nor when it is empty", p.wire.house.told(2), 2);
        p.ask(Peer.create("d", ALL, 7, 3, 0x1001, 0));
        p.ask(Peer.close(4));
        Check.eq("an empty one goes", p.wire.house.told(2), 1);
    }

    /** "All RECORDS come to the disk." */
    private static void closeMakesRecordsCome() {
        Peer p = Peer.fresh();
        p.open("f");
        p.open("g");
        p.ask(Peer.write(1, 0, "x"));
        Check.eq("three wait", p.wire.house.told(1), 3);
        Check.eq("refused", p.status(Peer.close(9)), Status.FILE_CLOSED);
        Check.eq("three still", p.wire.house.told(1), 3);
        p.ask(Peer.close(2));
        Check.eq("all came, of others too", p.wire.house.told(1), 0);
        Check.eq("nodes on the disk", p.wire.house.told(8), 3);
    }

    /** "Then waiting LOCKS and CREATES are looked at", in this order. */
    private static void locksThenCreates() {
        Peer[] p = two();
        p[0].open("f", 9);
        Check.eq("its own lock", p[0].status(Peer.lock(1, 0, 1, 2)), Status.OK);
        p[1].open("g");
        p[1].open("g");
        p[1].ask(Peer.lock(2, 0, 1, 2));
        Check.eq("a CREATE waits", p[1].status(Peer.shortCreate("f", ALL, 7, 1, 0, 0)), Status.PENDING);
        Check.eq("a LOCK waits", p[1].status(Peer.lock(3, 0, 1, 2)), Status.PENDING);
        p[1].ask(Peer.close(2));
        Check.eq("the LOCK", p[1].notes.get(0).command(), 10);
        Check.eq("the CREATE waits for f", p[0].wire.house.told(5), 1);
        p[0].news();
        p[0].ask(Peer.close(1));
        Check.eq("the CREATE", p[1].news().get(0).command(), 5);
        // both by one: f is locked and held by open 5 of the first
        Peer[] q = two();
        q[0].open("f", 8);
        Check.eq("BROKEN", q[1].status(Peer.shortCreate("f", ALL, 7, 1, 0, 0)), Status.PENDING);
        q[0].ask(Peer.lock(1, 0, 1, 2));
        q[0].notes.clear();
        Check.eq("a LOCK of the same open", q[0].status(Peer.lock(1, 0, 1, 2)), Status.PENDING);
        q[0].ask(Peer.close(1));
        Check.eq("CANCELLED first", q[0].notes.get(0).status(), Status.CANCELLED);
        Check.eq("opened", q[1].news().get(0).status(), Status.OK);
    }

    /** "7 FLUSH: ..; WRITE or APPEND of it (ACCESS_DENIED): RECORDS come". */
    private static void flushNeedsWriteOrAppend() {
        long[] access = {1, 2, 4, 8, 0x20, 0x80, 0x100, 0x10000, 0x1F01F9};
        for (long x : access) {
            Peer p = Peer.fresh();
            p.ask(Peer.create("f", x, 7, 3, 0, 0));
            Check.eq("one waits", p.wire.house.told(1), 1);
            boolean may = (x & 6) != 0;
            Check.eq("ACCESS " + x, p.status(Peer.flush(1)), may ? Status.OK : Status.ACCESS_DENIED);
            Check.eq("records " + x, p.wire.house.told(1), may ? 0 : 1);
        }
        Peer p = Peer.fresh();
        p.openDirectory("d");
        p.open("f");
        Check.eq("FLUSH of a directory", p.status(Peer.flush(1)), Status.OK);
        Check.eq("all came", p.wire.house.told(1), 0);
        Check.eq("nothing waits: as well", p.status(Peer.flush(2)), Status.OK);
    }

    private static Peer withTen() {
        Peer p = Peer.fresh();
        p.open("f");
        p.ask(Peer.write(1, 0, "0123456789"));
        return p;
    }

    /** "how many (above 1024: INVALID_PARAMETER, behind FILE)". */
    private static void readAbove1024() {
        Peer p = withTen();
        p.ask(Peer.setSize(1, 1100));
        Check.eq("1024", p.ask(Peer.read(1, 0, 1024)).n(68, 4), 1024);
        Check.eq("1025", p.status(Peer.read(1, 0, 1025)), Status.INVALID_PARAMETER);
        Check.eq("without sign", p.status(Peer.read(1, 0, 0x80000000L)), Status.INVALID_PARAMETER);
        Check.eq("the most", p.status(Peer.read(1, 0, 0xFFFFFFFFL)), Status.INVALID_PARAMETER);
        Check.eq("behind FILE", p.status(Peer.read(9, 0, 1025)), Status.FILE_CLOSED);
        Check.eq("1024, fewer there", p.ask(Peer.read(1, 100, 1024)).n(68, 4), 1000);
    }

    /** "from at SIZE or behind it (and how many not 0) ..: END_OF_FILE". */
    private static void readAtTheEnd() {
        Peer p = withTen();
        Answer a = p.ask(Peer.read(1, 9, 1));
        Check.eq("the last byte", a.n(80, 1), '9');
        Check.eq("length", a.length(), 81);
        Check.eq("at SIZE", p.status(Peer.read(1, 10, 1)), Status.END_OF_FILE);
        Check.eq("behind it", p.status(Peer.read(1, 11, 1)), Status.END_OF_FILE);
        long[] far = {4096, 1L << 31, 1L << 32, 1L << 63, -1L, Long.MAX_VALUE};
        for (long from : far) {
            Check.eq("from " + from, p.status(Peer.read(1, from, 1024)), Status.END_OF_FILE);
        }
        a = p.ask(Peer.read(1, 5, 1024));
        Check.eq("as many as are there", a.n(68, 4), 5);
        Check.eq("length of these", a.length(), 85);
    }

    /** "(one byte 0 where there are none)". */
    private static void readOfNone() {
        Peer p = withTen();
        long[] from = {0, 9, 10, 11, 5000, -1L, 1L << 63};
        for (long x : from) {
            Answer a = p.ask(Peer.read(1, x, 0));
            Check.eq("OK " + x, a.status(), Status.OK);
            Check.eq("length " + x, a.length(), 81);
            Check.eq("body " + x, a.n(64, 4), 17 | 80 << 16);
            Check.eq("how many " + x, a.n(68, 4), 0);
            Check.eq("the byte " + x, a.n(80, 1), 0);
        }
    }

    /** "or fewer there than least: END_OF_FILE". */
    private static void readAtLeast() {
        Peer p = withTen();
        Check.eq("just as many", p.status(Peer.read(1, 6, 8).put(96, 4, 4)), Status.OK);
        Check.eq("one more", p.status(Peer.read(1, 6, 8).put(96, 4, 5)), Status.END_OF_FILE);
        Check.eq("more than asked", p.status(Peer.read(1, 0, 3).put(96, 4, 4)), Status.END_OF_FILE);
        Check.eq("as many as asked", p.status(Peer.read(1, 0, 3).put(96, 4, 3)), Status.OK);
        Check.eq("none asked", p.status(Peer.read(1, 0, 0).put(96, 4, 1)), Status.END_OF_FILE);
        Check.eq("without sign", p.status(Peer.read(1, 0, 3).put(96, 4, 0xFFFFFFFFL)), Status.END_OF_FILE);
        Check.eq("without sign, too", p.status(Peer.read(1, 0, 3).put(96, 4, 0x80000000L)), Status.END_OF_FILE);
    }

    /** "A DIRECTORY: IS_A_DIRECTORY; without READ: ACCESS_DENIED". */
    private static void readNeedsRead() {
        long[] access = {1, 2, 4, 8, 0x20, 0x80, 0x1F01FE, 0x20000000};
        for (long x : access) {
            Peer p = withTen();
            p.ask(Peer.create("f", x, 7, 1, 0, 0));
            Check.eq("ACCESS " + x, p.status(Peer.read(2, 0, 1)), x == 1 ? Status.OK : Status.ACCESS_DENIED);
        }
        Peer p = Peer.fresh();
        p.openDirectory("d");
        Check.eq("a directory", p.status(Peer.read(1, 0, 0)), Status.IS_A_DIRECTORY);
    }

    /** "EXCLUSIVE locks of other opens that MEET what is asked: LOCK_CONFLICT". */
    private static void readMeetsLocks() {
        Peer p = withTen();
        p.open("f");
        p.ask(Peer.lock(1, 4, 2, 2));
        p.ask(Peer.lock(1, 8, 1, 1));
        Check.eq("ahead of it", p.status(Peer.read(2, 0, 4)), Status.OK);
        Check.eq("its first byte", p.status(Peer.read(2, 0, 5)), Status.LOCK_CONFLICT);
        Check.eq("its last byte", p.status(Peer.read(2, 5, 1)), Status.LOCK_CONFLICT);
        Check.eq("behind it", p.status(Peer.read(2, 6, 4)), Status.OK);
        Check.eq("around it", p.status(Peer.read(2, 3, 4)), Status.LOCK_CONFLICT);
        Check.eq("none of its bytes", p.status(Peer.read(2, 5, 0)), Status.OK);
        Check.eq("its own", p.status(Peer.read(1, 0, 10)), Status.OK);
        p.ask(Peer.lock(1, 20, 5, 2));
        Check.eq("what is asked, though it is not there", p.status(Peer.read(2, 6, 15)), Status.LOCK_CONFLICT);
        Check.eq("just ahead of it", p.status(Peer.read(2, 6, 14)), Status.OK);
        p.ask(Peer.lock(1, -1L, 1, 2));
        Check.eq("the last number of all", p.status(Peer.read(2, -1L, 1)), Status.LOCK_CONFLICT);
        Check.eq("that would go around", p.status(Peer.read(2, -2L, 9)), Status.LOCK_CONFLICT);
        Check.eq("not that of the beginning", p.status(Peer.read(2, 0, 1)), Status.OK);
        p.ask(Peer.lock(1, 2, 0, 2));
        Check.eq("a lock of no bytes", p.status(Peer.read(2, 0, 4)), Status.OK);
    }

    private static void orderOfRead() {
        Peer p = withTen();
        p.openDirectory("d");
        p.ask(Peer.create("f", 0x80, 7, 1, 0, 0));
        p.open("f");
        p.ask(Peer.lock(1, 100, 10, 2));
        p.ask(Peer.create("d", 0x80, 7, 1, 0, 0));
        Check.eq("how many, ahead of a directory", p.status(Peer.read(2, 0, 1025)), Status.INVALID_PARAMETER);
        Check.eq("a directory, ahead of ACCESS", p.status(Peer.read(5, 0, 1)), Status.IS_A_DIRECTORY);
        Check.eq("how many, ahead of ACCESS", p.status(Peer.read(3, 0, 1025)), Status.INVALID_PARAMETER);
        Check.eq("ACCESS, ahead of locks", p.status(Peer.read(3, 100, 1)), Status.ACCESS_DENIED);
        Check.eq("locks, ahead of the end", p.status(Peer.read(4, 100, 1)), Status.LOCK_CONFLICT);
        Check.eq("locks, ahead of least", p.status(Peer.read(4, 5, 100).put(96, 4, 50)), Status.LOCK_CONFLICT);
    }

    /** "looked at: stays". */
    private static void lookedAtStays() {
        Peer p = withTen();
        p.wire.house.tick(50);
        p.ask(Peer.read(1, 0, 5));
        Answer a = p.ask(Peer.info(1, 1, 4, 40));
        for (int at = 72; at <= 96; at += 8) {
            Check.eq("TIMES", a.n(at, 8), 0);
        }
        Check.eq("no record", p.wire.house.told(1), 2);
    }

    /** "how many (above 1024, not within the REQUEST: INVALID_PARAMETER, ahead of FILE)". */
    private static void writeAbove1024() {
        Peer p = withTen();
        Check.eq("1024", p.ask(Peer.write(1, 0, "y".repeat(1024))).n(68, 4), 1024);
        Check.eq("1025", p.status(Peer.write(1, 0, "z".repeat(1025))), Status.INVALID_PARAMETER);
        Check.eq("ahead of FILE", p.status(Peer.write(9, 0, "z".repeat(1025))), Status.INVALID_PARAMETER);
        Check.eq("without sign", p.status(Peer.write(1, 0, "z").put(68, 4, 0x80000001L)), Status.INVALID_PARAMETER);
        Check.eq("nothing was put", p.ask(Peer.read(1, 0, 1)).n(80, 1), 'y');
        Check.eq("SIZE", p.ask(Peer.info(1, 1, 5, 24)).n(80, 8), 1024);
    }

    /** "without WRITE and APPEND: ACCESS_DENIED; with APPEND alone, from not SIZE: ACCESS_DENIED". */
    private static void writeAppends() {
        Peer p = withTen();
        long[] access = {1, 8, 0x20, 0x80, 0x100, 0x1F01F9};
        for (int i = 0; i < access.length; i++) {
            p.ask(Peer.create("f", access[i], 7, 1, 0, 0));
            Check.eq("ACCESS " + access[i], p.status(Peer.write(2 + i, 10, "x")), Status.ACCESS_DENIED);
        }
        Peer q = withTen();
        q.ask(Peer.create("f", 4, 7, 1, 0, 0));
        q.ask(Peer.create("f", 6, 7, 1, 0, 0));
        q.ask(Peer.create("f", 2, 7, 1, 0, 0));
        Check.eq("APPEND below SIZE", q.status(Peer.write(2, 9, "x")), Status.ACCESS_DENIED);
        Check.eq("APPEND above SIZE", q.status(Peer.write(2, 11, "x")), Status.ACCESS_DENIED);
        Check.eq("APPEND of none, not at SIZE", q.status(Peer.write(2, 0, "")), Status.ACCESS_DENIED);
        Check.eq("APPEND of none, at SIZE", q.status(Peer.write(2, 10, "")), Status.OK);
        Check.eq("APPEND far above", q.status(Peer.write(2, -1L, "x")), Status.ACCESS_DENIED);
        Check.eq("APPEND at SIZE", q.status(Peer.write(2, 10, "ab")), Status.OK);
        Check.eq("and again", q.status(Peer.write(2, 12, "c")), Status.OK);
        Check.eq("both", q.status(Peer.write(3, 0, "x")), Status.OK);
        Check.eq("WRITE alone", q.status(Peer.write(4, 5, "x")), Status.OK);
        Check.eq("SIZE", q.ask(Peer.info(1, 1, 5, 24)).n(80, 8), 13);
    }

    /** "any locks that MEET what is put but its own EXCLUSIVE ones: LOCK_CONFLICT". */
    private static void writeMeetsLocks() {
        Peer p = withTen();
        p.open("f");
        p.ask(Peer.lock(1, 4, 2, 2));
        p.ask(Peer.lock(1, 7, 2, 1));
        Check.eq("ahead of it", p.status(Peer.write(2, 2, "ab")), Status.OK);
        Check.eq("its first byte", p.status(Peer.write(2, 2, "abc")), Status.LOCK_CONFLICT);
        Check.eq("its last byte", p.status(Peer.write(2, 5, "a")), Status.LOCK_CONFLICT);
        Check.eq("between", p.status(Peer.write(2, 6, "a")), Status.OK);
        Check.eq("SHARED of others", p.status(Peer.write(2, 6, "ab")), Status.LOCK_CONFLICT);
        Check.eq("SHARED of its own", p.status(Peer.write(1, 8, "a")), Status.LOCK_CONFLICT);
        Check.eq("EXCLUSIVE of its own", p.status(Peer.write(1, 3, "abcd")), Status.OK);
        Check.eq("both of its own", p.status(Peer.write(1, 3, "abcde")), Status.LOCK_CONFLICT);
        Check.eq("behind it", p.status(Peer.write(2, 9, "a")), Status.OK);
        Check.eq("none of its bytes", p.status(Peer.write(2, 4, "")), Status.OK);
        p.ask(Peer.lock(1, 3, 0, 2));
        Check.eq("a lock of no bytes", p.status(Peer.write(2, 3, "a")), Status.OK);
    }

    /** "from and how many above 4096: DISK_FULL". */
    private static void writeAbove4096() {
        Peer p = withTen();
        Check.eq("to 4096", p.status(Peer.write(1, 4093, "abc")), Status.OK);
        Check.eq("to 4097", p.status(Peer.write(1, 4094, "abc")), Status.DISK_FULL);
        Check.eq("from 4096", p.status(Peer.write(1, 4096, "a")), Status.DISK_FULL);
        Check.eq("from 4097, none", p.status(Peer.write(1, 4097, "")), Status.DISK_FULL);
        Check.eq("from 4096, none", p.status(Peer.write(1, 4096, "")), Status.OK);
        long[] far = {1L << 31, 1L << 32, 1L << 63, -1L, -3L, Long.MAX_VALUE};
        for (long from : far) {
            Check.eq("from " + from, p.status(Peer.write(1, from, "abc")), Status.DISK_FULL);
        }
        Check.eq("nothing was put", p.ask(Peer.read(1, 4093, 3)).n(80, 3), 'a' | 'b' << 8 | 'c' << 16);
        Check.eq("nor at the beginning", p.ask(Peer.read(1, 0, 2)).n(80, 2), '0' | '1' << 8);
    }

    /** "None: nothing changes." */
    private static void writeOfNone() {
        Peer[] p = two();
        p[0].open("f");
        p[1].open("f", 1);
        p[0].wire.house.tick(9);
        int records = p[0].wire.house.told(1);
        Answer a = p[0].ask(Peer.write(1, 4000, ""));
        Check.eq("OK", a.status(), Status.OK);
        Check.eq("how many", a.n(68, 4), 0);
        Check.eq("length", a.length(), 81);
        Check.eq("no record", p[0].wire.house.told(1), records);
        Check.eq("LEVEL II stays", p[1].news().size(), 0);
        a = p[0].ask(Peer.info(1, 1, 18, 80));
        Check.eq("SIZE", a.n(120, 8), 0);
        Check.eq("written", a.n(88, 8), 0);
        Check.eq("changed", a.n(96, 8), 0);
    }

    /** "Else bytes are put (0s between SIZE and from), written and changed NOW; LEVEL II of all others is broken." */
    private static void writeBehindTheEnd() {
        Peer[] p = two();
        p[0].open("f", 1);
        p[1].open("f", 1);
        p[0].ask(Peer.write(1, 0, "abcdef"));
        Check.eq("another's LEVEL II", p[1].news().size(), 1);
        p[0].ask(Peer.setSize(1, 2));
        p[0].wire.house.tick(7);
        p[0].ask(Peer.write(1, 5, "x"));
        Check.eq("0s between", p[0].ask(Peer.read(1, 0, 6)).n(80, 6), 'a' | 'b' << 8 | (long) 'x' << 40);
        Answer a = p[0].ask(Peer.info(1, 1, 4, 40));
        Check.eq("made", a.n(72, 8), 0);
        Check.eq("looked at", a.n(80, 8), 0);
        Check.eq("written", a.n(88, 8), 7);
        Check.eq("changed", a.n(96, 8), 7);
        p[1].ask(Peer.write(2, 0, "y"));
        Check.eq("its own stayed till now", p[0].news().size(), 1);
    }

    private static void orderOfWrite() {
        Peer p = withTen();
        p.openDirectory("d");
        p.ask(Peer.create("d", 0x80, 7, 1, 0, 0));
        p.ask(Peer.create("f", 0x80, 7, 1, 0, 0));
        p.ask(Peer.create("f", 4, 7, 1, 0, 0));
        p.open("f");
        p.ask(Peer.lock(1, 5000, 10, 2));
        p.ask(Peer.lock(1, 5, 1, 2));
        Check.eq("a directory, ahead of ACCESS", p.status(Peer.write(3, 0, "x")), Status.IS_A_DIRECTORY);
        Check.eq("a directory, ahead of DISK_FULL", p.status(Peer.write(2, 5000, "x")), Status.IS_A_DIRECTORY);
        Check.eq("ACCESS, ahead of locks", p.status(Peer.write(4, 5, "x")), Status.ACCESS_DENIED);
        Check.eq("APPEND, ahead of locks", p.status(Peer.write(5, 5, "x")), Status.ACCESS_DENIED);
        Check.eq("APPEND, ahead of DISK_FULL", p.status(Peer.write(5, 5000, "x")), Status.ACCESS_DENIED);
        Check.eq("locks, ahead of DISK_FULL", p.status(Peer.write(6, 5000, "x")), Status.LOCK_CONFLICT);
        Check.eq("DISK_FULL", p.status(Peer.write(6, 4999, "x")), Status.DISK_FULL);
    }
}
