import java.util.List;

/** Part 6, "LOCKS": each edge that it names. */
public final class LockEdgeTest {
    private static final int ALL = Peer.ALL;
    private static final long TOP = 1L << 63;

    private LockEdgeTest() {
    }

    public static void main(String[] args) {
        notAbove2To64();
        rangesThatMeet();
        rangesWithoutBytes();
        rangesWithoutSign();
        oneToEight();
        allThere();
        needsReadWriteOrAppend();
        notOfDirectories();
        flagsOfOne();
        flagsOfMany();
        unlockOrNone();
        aheadOfDoingAny();
        unlocksTheEldest();
        unlocksJustThat();
        unlocksThoseBefore();
        unlockWakesWaiting();
        sharedAndExclusive();
        ofAnyOpen();
        allOrNone();
        theirOwnMeetToo();
        atOnce();
        oneAloneWaits();
        sixtyLocks();
        sixtyOfAllFiles();
        waitingWhileFewerThan60();
        orderOfLooking();
        Check.end("LockEdgeTest");
    }

    private static Peer withFile() {
        Peer p = Peer.fresh();
        p.open("f");
        return p;
    }

    private static int lock(Peer p, long... locks) {
        return p.status(Peer.lock(1, locks));
    }

    /** "from, many (8 each, without sign; together not above 2^64: INVALID_PARAMETER)". */
    private static void notAbove2To64() {
        long[][] fits = {{-1L, 1}, {1, -1L}, {TOP, TOP}, {0, -1L}, {-1L, 0}, {0, 0}, {-5L, 5}, {TOP + 7, TOP - 7}};
        for (long[] x : fits) {
            Check.eq("from " + x[0] + " many " + x[1], lock(withFile(), x[0], x[1], 2), Status.OK);
            Peer p = withFile();
            Check.eq("UNLOCK from " + x[0], lock(p, x[0], x[1], 4), Status.RANGE_NOT_LOCKED);
        }
        long[][] above = {{-1L, 2}, {2, -1L}, {-1L, -1L}, {TOP, TOP + 1}, {TOP + 1, TOP}, {-5L, 6}, {-5L, -1L}};
        for (long[] x : above) {
            Peer p = withFile();
            Check.eq("from " + x[0] + " many " + x[1], lock(p, x[0], x[1], 2), Status.INVALID_PARAMETER);
            Check.eq("UNLOCK, too", lock(p, x[0], x[1], 4), Status.INVALID_PARAMETER);
            Check.eq("of the second", lock(p, 0, 1, 0x12, x[0], x[1], 0x12), Status.INVALID_PARAMETER);
            Check.eq("no lock", p.wire.house.told(4), 0);
        }
    }

    /** Whether a lock of one range keeps that of another from being. */
    private static boolean meet(long from, long many, long otherFrom, long otherMany) {
        Peer p = withFile();
        Check.eq("the first", lock(p, from, many, 2), Status.OK);
        int status = lock(p, otherFrom, otherMany, 0x12);
        Peer q = withFile();
        Check.eq("the other first", lock(q, otherFrom, otherMany, 2), Status.OK);
        Check.eq("both ways the same", lock(q, from, many, 0x12), status);
        Check.is("one or the other", status == Status.OK || status == Status.LOCK_NOT_GRANTED);
        return status == Status.LOCK_NOT_GRANTED;
    }

    /** "Two ranges MEET when both have bytes and one of these in common." */
    private static void rangesThatMeet() {
        Check.is("the same", meet(10, 10, 10, 10));
        Check.is("one in common at the end", meet(10, 10, 19, 5));
        Check.not("beside it", meet(10, 10, 20, 5));
        Check.is("one in common at the beginning", meet(10, 10, 5, 6));
        Check.not("just ahead of it", meet(10, 10, 5, 5));
        Check.is("within it", meet(10, 10, 14, 2));
        Check.is("one byte", meet(10, 1, 10, 1));
        Check.not("one byte beside one", meet(10, 1, 11, 1));
    }

    private static void rangesWithoutBytes() {
        Check.not("in the middle", meet(10, 10, 15, 0));
        Check.not("at the beginning", meet(10, 10, 10, 0));
        Check.not("both", meet(10, 0, 10, 0));
        Check.not("at the end of all", meet(-1L, 1, -1L, 0));
        Check.not("around 0", meet(0, -1L, 0, 0));
    }

    private static void rangesWithoutSign() {
        Check.is("all but the last", meet(0, -1L, -2L, 1));
        Check.not("the last", meet(0, -1L, -1L, 1));
        Check.is("to the end of all", meet(1, -1L, -1L, 1));
        Check.not("not around to 0", meet(1, -1L, 0, 1));
        Check.is("across the sign", meet(TOP - 5, 10, TOP + 4, 1));
        Check.not("behind that", meet(TOP - 5, 10, TOP + 5, 1));
        Check.is("ahead of the sign", meet(TOP - 5, 10, TOP - 5, 1));
        Check.not("half and half", meet(0, TOP, TOP, TOP));
        Check.is("half and one more", meet(0, TOP, TOP - 1, TOP));
    }

    private static Req many(int n, int flags) {
        long[] all = new long[3 * n];
        for (int i = 0; i < n; i++) {
            all[3 * i] = 10 * i;
            all[3 * i + 1] = 5;
            all[3 * i + 2] = flags;
        }
        return Peer.lock(1, all);
    }

    /** "1 .. 8 of them .. (else INVALID_PARAMETER, behind FILE)". */
    private static void oneToEight() {
        Peer p = withFile();
        Check.eq("0", p.status(Peer.lock(1).length(112)), Status.INVALID_PARAMETER);
        Check.eq("9", p.status(many(9, 0x12)), Status.INVALID_PARAMETER);
        Check.eq("256 and 1", p.status(many(1, 0x12).put(66, 2, 257)), Status.INVALID_PARAMETER);
        Check.eq("65535", p.status(many(1, 0x12).put(66, 2, 65535)), Status.INVALID_PARAMETER);
        Check.eq("no lock", p.wire.house.told(4), 0);
        Check.eq("0, behind FILE", p.status(Peer.lock(9).length(112)), Status.FILE_CLOSED);
        Check.eq("9, behind FILE", p.status(many(9, 0x12).file(72, 9)), Status.FILE_CLOSED);
        Check.eq("8", p.status(many(8, 0x12)), Status.OK);
        Check.eq("8 locks", p.wire.house.told(4), 8);
        Check.eq("8 UNLOCK", p.status(many(8, 4)), Status.OK);
        Check.eq("9 UNLOCK", p.status(many(9, 4)), Status.INVALID_PARAMETER);
        Check.eq("1", p.status(many(1, 2)), Status.OK);
    }

    /** "all there". */
    private static void allThere() {
        Peer p = withFile();
        for (int n = 2; n <= 8; n++) {
            Check.eq("one byte short of " + n, p.status(many(n, 0x12).length(88 + 24 * n - 1)), Status.INVALID_PARAMETER);
        }
        Check.eq("no lock", p.wire.house.told(4), 0);
        Check.eq("behind FILE", p.status(many(2, 0x12).length(112).file(72, 9)), Status.FILE_CLOSED);
        Check.eq("just all", p.status(many(2, 0x12).length(88 + 48)), Status.OK);
    }

    /** "without READ, WRITE, APPEND: ACCESS_DENIED". */
    private static void needsReadWriteOrAppend() {
        long[] access = {1, 2, 4, 8, 0x20, 0x80, 0x100, 0x10000, 0x1F01F8};
        for (long x : access) {
            Peer p = Peer.fresh();
            p.ask(Peer.create("f", x, 7, 3, 0, 0));
            boolean may = (x & 7) != 0;
            Check.eq("ACCESS " + x, lock(p, 0, 1, 2), may ? Status.OK : Status.ACCESS_DENIED);
            Check.eq("UNLOCK " + x, lock(p, 0, 1, 4), may ? Status.OK : Status.ACCESS_DENIED);
        }
    }

    /** "a DIRECTORY: IS_A_DIRECTORY". */
    private static void notOfDirectories() {
        Peer p = Peer.fresh();
        p.openDirectory("d");
        Check.eq("LOCK", lock(p, 0, 1, 2), Status.IS_A_DIRECTORY);
        Check.eq("UNLOCK", lock(p, 0, 1, 4), Status.IS_A_DIRECTORY);
        Check.eq("no lock", p.wire.house.told(4), 0);
    }

    /** "of others FLAGS 1, 2, 11, 12". */
    private static void flagsOfOne() {
        long[] fits = {1, 2, 0x11, 0x12};
        for (long flags : fits) {
            Check.eq("FLAGS " + flags, lock(withFile(), 0, 1, flags), Status.OK);
        }
        long[] none = {0, 3, 5, 6, 7, 8, 0x10, 0x13, 0x14, 0x15, 0x20, 0x21, 0x22, 0x101, 0x80000002L, 0xFFFFFFFFL};
        Peer p = withFile();
        for (long flags : none) {
            Check.eq("FLAGS " + flags, lock(p, 0, 1, flags), Status.INVALID_PARAMETER);
        }
        Check.eq("no lock", p.wire.house.told(4), 0);
    }

    /** "and more than one only with 10 in all: else INVALID_PARAMETER". */
    private static void flagsOfMany() {
        Peer p = withFile();
        Check.eq("none with it", lock(p, 0, 1, 2, 5, 1, 2), Status.INVALID_PARAMETER);
        Check.eq("the first without", lock(p, 0, 1, 2, 5, 1, 0x12), Status.INVALID_PARAMETER);
        Check.eq("the last without", lock(p, 0, 1, 0x12, 5, 1, 0x11, 9, 1, 1), Status.INVALID_PARAMETER);
        Check.eq("no lock", p.wire.house.told(4), 0);
        Check.eq("all with it", lock(p, 0, 1, 0x12, 5, 1, 0x11, 9, 1, 0x11), Status.OK);
    }

    /** "All are UNLOCK (4 alone), or none is". */
    private static void unlockOrNone() {
        Peer p = withFile();
        lock(p, 0, 1, 0x12, 5, 1, 0x12);
        Check.eq("UNLOCK, then not", lock(p, 0, 1, 4, 9, 1, 0x12), Status.INVALID_PARAMETER);
        Check.eq("not, then UNLOCK", lock(p, 9, 1, 0x12, 0, 1, 4), Status.INVALID_PARAMETER);
        Check.eq("UNLOCK at once", lock(p, 0, 1, 0x14), Status.INVALID_PARAMETER);
        Check.eq("UNLOCK, then one at once", lock(p, 0, 1, 4, 5, 1, 0x14), Status.INVALID_PARAMETER);
        Check.eq("two locks still", p.wire.house.told(4), 2);
        Check.eq("all", lock(p, 0, 1, 4, 5, 1, 4), Status.OK);
    }

    /** "(looked at one by one, ahead of doing any)". */
    private static void aheadOfDoingAny() {
        Peer p = withFile();
        lock(p, 0, 1, 0x12);
        Check.eq("the last FLAGS are wrong", lock(p, 5, 1, 0x12, 6, 1, 0x12, 7, 1, 0x13), Status.INVALID_PARAMETER);
        Check.eq("though the first could not be", lock(p, 0, 1, 0x12, 6, 1, 0), Status.INVALID_PARAMETER);
        Check.eq("UNLOCK, the last is too far", lock(p, 0, 1, 4, -1L, 2, 4), Status.INVALID_PARAMETER);
        Check.eq("one lock still", p.wire.house.told(4), 1);
    }

    /** "the eldest lock of this open with just that from and many goes": first a SHARED, then an EXCLUSIVE of no bytes. */
    private static void unlocksTheEldest() {
        Peer p = withFile();
        p.open("f");
        lock(p, 5, 0, 1);
        lock(p, 0, 9, 1);
        lock(p, 0, 9, 0x11);
        Check.eq("one", lock(p, 0, 9, 4), Status.OK);
        Check.eq("the other is there", p.wire.house.told(4), 2);
        Check.eq("it keeps others out", p.status(Peer.lock(2, 0, 1, 0x12)), Status.LOCK_NOT_GRANTED);
        Check.eq("the other", lock(p, 0, 9, 4), Status.OK);
        Check.eq("none any more", lock(p, 0, 9, 4), Status.RANGE_NOT_LOCKED);
        Check.eq("no bytes", lock(p, 5, 0, 4), Status.OK);
        Check.eq("no locks", p.wire.house.told(4), 0);
    }

    private static void unlocksJustThat() {
        Peer p = withFile();
        p.open("f");
        lock(p, 10, 10, 2);
        long[][] others = {{10, 9}, {10, 11}, {9, 10}, {11, 10}, {10, 0}, {0, 0}, {10 | 1L << 32, 10}, {10, 10 | 1L << 32}};
        for (long[] x : others) {
            Check.eq("from " + x[0] + " many " + x[1], lock(p, x[0], x[1], 4), Status.RANGE_NOT_LOCKED);
        }
        Check.eq("another open's", p.status(Peer.lock(2, 10, 10, 4)), Status.RANGE_NOT_LOCKED);
        Check.eq("it is there", p.wire.house.told(4), 1);
        Check.eq("just that", lock(p, 10, 10, 4), Status.OK);
        lock(p, -2L, 1, 2);
        Check.eq("not without its highest byte", lock(p, -2L >>> 8, 1, 4), Status.RANGE_NOT_LOCKED);
        Check.eq("with it", lock(p, -2L, 1, 4), Status.OK);
        lock(p, 1, -2L, 2);
        Check.eq("many, not without its highest byte", lock(p, 1, -2L >>> 8, 4), Status.RANGE_NOT_LOCKED);
        Check.eq("many, with it", lock(p, 1, -2L, 4), Status.OK);
    }

    /** "none: RANGE_NOT_LOCKED (those before are done)". */
    private static void unlocksThoseBefore() {
        Peer p = withFile();
        lock(p, 0, 1, 0x12, 1, 1, 0x12, 2, 1, 0x12);
        Check.eq("the second is none", lock(p, 0, 1, 4, 9, 1, 4, 1, 1, 4), Status.RANGE_NOT_LOCKED);
        Check.eq("the first went, the third did not", p.wire.house.told(4), 2);
        Check.eq("each in turn", lock(p, 1, 1, 4, 1, 1, 4), Status.RANGE_NOT_LOCKED);
        Check.eq("one went", p.wire.house.told(4), 1);
        Check.eq("the first is none", lock(p, 9, 1, 4, 2, 1, 4), Status.RANGE_NOT_LOCKED);
        Check.eq("none went", p.wire.house.told(4), 1);
    }

    /** "Then WAITING LOCKS are looked at." */
    private static void unlockWakesWaiting() {
        Peer p = withFile();
        lock(p, 0, 2, 2);
        Check.eq("waits", lock(p, 0, 1, 2), Status.PENDING);
        Check.eq("of another range", lock(p, 9, 1, 4), Status.RANGE_NOT_LOCKED);
        Check.eq("it waits on", p.wire.house.told(5), 1);
        Check.eq("refused behind one that went", lock(p, 0, 2, 4, 0, 2, 4), Status.RANGE_NOT_LOCKED);
        Check.eq("it is answered all the same", p.notes.get(0).status(), Status.OK);
        Check.eq("one lock", p.wire.house.told(4), 1);
    }

    /** "One CAN BE, when no lock that it MEETS (..) is there, but SHARED ones if it is SHARED." */
    private static void sharedAndExclusive() {
        int[][] due = {{1, 1, 1}, {1, 2, 0}, {2, 1, 0}, {2, 2, 0}};
        for (int[] x : due) {
            Peer p = withFile();
            lock(p, 0, 5, x[0]);
            Check.eq(x[0] + " then " + x[1], lock(p, 4, 5, x[1] | 0x10),
                    x[2] == 1 ? Status.OK : Status.LOCK_NOT_GRANTED);
        }
        Peer p = withFile();
        lock(p, 0, 1, 1);
        lock(p, 0, 1, 1);
        lock(p, 1, 1, 2);
        Check.eq("SHARED beside both kinds", lock(p, 0, 2, 0x11), Status.LOCK_NOT_GRANTED);
        Check.eq("beside SHARED alone", lock(p, 0, 1, 0x11), Status.OK);
    }

    /** "(of any open)": its own, and others of the same file, not of another file. */
    private static void ofAnyOpen() {
        Peer p = withFile();
        p.open("f");
        p.open("g");
        lock(p, 0, 1, 2);
        Check.eq("its own", lock(p, 0, 1, 0x12), Status.LOCK_NOT_GRANTED);
        Check.eq("another's", p.status(Peer.lock(2, 0, 1, 0x12)), Status.LOCK_NOT_GRANTED);
        Check.eq("of another file", p.status(Peer.lock(3, 0, 1, 0x12)), Status.OK);
    }

    /** "All or none: if one cannot be, those before are undone: LOCK_NOT_GRANTED". */
    private static void allOrNone() {
        Peer p = withFile();
        lock(p, 50, 1, 2);
        Check.eq("the last", lock(p, 0, 1, 0x12, 1, 1, 0x11, 50, 1, 0x11), Status.LOCK_NOT_GRANTED);
        Check.eq("undone", p.wire.house.told(4), 1);
        Check.eq("they can be had", lock(p, 0, 1, 0x12, 1, 1, 0x12), Status.OK);
        Check.eq("the first", lock(p, 50, 1, 0x12, 60, 1, 0x12), Status.LOCK_NOT_GRANTED);
        Check.eq("nothing of it", p.wire.house.told(4), 3);
        Check.eq("the elder ones are not undone", lock(p, 50, 1, 4, 0, 1, 4, 1, 1, 4), Status.OK);
    }

    private static void theirOwnMeetToo() {
        Peer p = withFile();
        Check.eq("each other", lock(p, 0, 5, 0x12, 4, 1, 0x12), Status.LOCK_NOT_GRANTED);
        Check.eq("SHARED and EXCLUSIVE", lock(p, 0, 5, 0x11, 4, 1, 0x12), Status.LOCK_NOT_GRANTED);
        Check.eq("none", p.wire.house.told(4), 0);
        Check.eq("SHARED ones", lock(p, 0, 5, 0x11, 4, 1, 0x11), Status.OK);
    }

    private static void atOnce() {
        Peer p = withFile();
        lock(p, 0, 1, 2);
        Check.eq("EXCLUSIVE", lock(p, 0, 1, 0x12), Status.LOCK_NOT_GRANTED);
        Check.eq("SHARED", lock(p, 0, 1, 0x11), Status.LOCK_NOT_GRANTED);
        Check.eq("none waits", p.wire.house.told(5), 0);
    }

    /** "but one alone without AT ONCE WAITS, if it is the last of its message". */
    private static void oneAloneWaits() {
        Peer p = withFile();
        lock(p, 0, 1, 2);
        Check.eq("not the last", p.askAll(Peer.lock(1, 0, 1, 2), Peer.echo()).get(0).status(), Status.LOCK_NOT_GRANTED);
        Check.eq("none waits", p.wire.house.told(5), 0);
        List<Answer> all = p.askAll(Peer.echo(), Peer.lock(1, 0, 1, 1));
        Check.eq("the last", all.get(1).status(), Status.PENDING);
        Check.eq("EXCLUSIVE", lock(p, 0, 1, 2), Status.PENDING);
        Check.eq("two wait", p.wire.house.told(5), 2);
        Check.eq("no locks of those", p.wire.house.told(4), 1);
        // the SHARED one is the eldest: the other waits on
        p.ask(Peer.lock(1, 0, 1, 4));
        Check.eq("the eldest", p.notes.get(0).async(), 1);
        Check.eq("it alone", p.notes.size(), 1);
        p.ask(Peer.lock(1, 0, 1, 4));
        Check.eq("then the other", p.notes.get(0).async(), 2);
    }

    /** An open with so many locks, of one byte each: 100 and up. */
    private static Peer with(int n) {
        Peer p = withFile();
        for (int i = 0; i < n; i += 8) {
            int some = Math.min(8, n - i);
            long[] all = new long[3 * some];
            for (int j = 0; j < some; j++) {
                all[3 * j] = 100 + i + j;
                all[3 * j + 1] = 1;
                all[3 * j + 2] = 0x12;
            }
            Check.eq("locks", lock(p, all), Status.OK);
        }
        Check.eq("so many", p.wire.house.told(4), n);
        return p;
    }

    /** "if there would be more than 60 locks: RESOURCES". */
    private static void sixtyLocks() {
        Peer p = with(58);
        Check.eq("three more", lock(p, 0, 1, 0x12, 1, 1, 0x12, 2, 1, 0x12), Status.RESOURCES);
        Check.eq("none of them", p.wire.house.told(4), 58);
        Check.eq("two more", lock(p, 0, 1, 0x12, 1, 1, 0x12), Status.OK);
        Check.eq("60", p.wire.house.told(4), 60);
        Check.eq("one more", lock(p, 2, 1, 2), Status.RESOURCES);
        Check.eq("ahead of LOCK_NOT_GRANTED", lock(p, 0, 1, 0x12), Status.RESOURCES);
        Check.eq("none waits", p.wire.house.told(5), 0);
        Check.eq("UNLOCK", lock(p, 0, 1, 4), Status.OK);
        Check.eq("59", p.wire.house.told(4), 59);
        Check.eq("one that cannot be", lock(p, 1, 1, 0x12), Status.LOCK_NOT_GRANTED);
        Check.eq("one that can", lock(p, 2, 0, 2), Status.OK);
    }

    /** All locks of the house count; RESOURCES breaks no LEVEL II. */
    private static void sixtyOfAllFiles() {
        Peer p = with(60);
        p.open("g", 1);
        p.notes.clear();
        Check.eq("of another file", p.status(Peer.lock(2, 0, 1, 2)), Status.RESOURCES);
        Check.eq("LEVEL II stays", p.notes.size(), 0);
        p.ask(Peer.close(1));
        Check.eq("all went", p.wire.house.told(4), 0);
        Check.eq("room", p.status(Peer.lock(2, 0, 1, 2)), Status.OK);
        Check.eq("LEVEL II is broken then", p.notes.size(), 1);
    }

    /** "each that CAN BE (while there are fewer than 60) is, and is answered". */
    private static void waitingWhileFewerThan60() {
        Peer p = with(57);
        p.open("f");
        lock(p, 0, 1, 2);
        Check.eq("1 waits", p.status(Peer.lock(2, 0, 1, 1)), Status.PENDING);
        Check.eq("2 waits", p.status(Peer.lock(2, 0, 1, 1)), Status.PENDING);
        Check.eq("3 waits", p.status(Peer.lock(2, 0, 1, 1)), Status.PENDING);
        lock(p, 1, 1, 0x12, 2, 1, 0x12);
        Check.eq("60", p.wire.house.told(4), 60);
        p.ask(Peer.lock(1, 0, 1, 4));
        Check.eq("one alone", p.notes.size(), 1);
        Check.eq("the eldest", p.notes.get(0).async(), 1);
        Check.eq("60 again", p.wire.house.told(4), 60);
        // any lock that goes makes room, of whatever range
        p.ask(Peer.lock(1, 100, 1, 4, 101, 1, 4));
        Check.eq("both others", p.notes.size(), 2);
        Check.eq("60 once more", p.wire.house.told(4), 60);
        Check.eq("none waits", p.wire.house.told(5), 0);
    }

    private static void orderOfLooking() {
        Peer p = Peer.fresh();
        p.ask(Peer.create("d", 0x80, 7, 3, 1, 0));
        p.ask(Peer.create("f", 0x80, 7, 3, 0, 0));
        Req r = Peer.lock(9, 0, 1, 77).put(66, 2, 0);
        Check.eq("FILE", p.status(r.copy()), Status.FILE_CLOSED);
        r.file(72, 1);
        Check.eq("how many", p.status(r.copy()), Status.INVALID_PARAMETER);
        r.put(66, 2, 1);
        Check.eq("a DIRECTORY, ahead of ACCESS and FLAGS", p.status(r.copy()), Status.IS_A_DIRECTORY);
        r.file(72, 2);
        Check.eq("ACCESS, ahead of FLAGS", p.status(r.copy()), Status.ACCESS_DENIED);
        Check.eq("how many, ahead of ACCESS", p.status(r.copy().put(66, 2, 9)), Status.INVALID_PARAMETER);
        p.ask(Peer.create("f", ALL, 7, 3, 0, 0));
        r.file(72, 3);
        Check.eq("FLAGS", p.status(r.copy()), Status.INVALID_PARAMETER);
        Peer full = with(60);
        Check.eq("FLAGS, ahead of RESOURCES", lock(full, 0, 1, 77), Status.INVALID_PARAMETER);
        Check.eq("too far, ahead of RESOURCES", lock(full, -1L, 2, 2), Status.INVALID_PARAMETER);
    }
}
