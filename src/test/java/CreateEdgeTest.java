import java.util.List;

/** Part 4, CREATE: each edge that it names, and the order in which it looks. */
public final class CreateEdgeTest {
    private static final int ALL = Peer.ALL;
    private static final int DIRECTORY = 1;
    private static final int FILE = 0x40;
    private static final int GONE_ON_CLOSE = 0x1000;

    private CreateEdgeTest() {
    }

    public static void main(String[] args) {
        oplocksAsked();
        shareAbove7();
        dispositionAbove5();
        directoryAndFile();
        directoryAndEmptying();
        otherOptions();
        accessCountsAs();
        accessOfNone();
        goneOnCloseNeedsDelete();
        oddPaths();
        namesThatAreNone();
        pathsAbove240();
        theRoot();
        directoriesOnTheWay();
        directoriesThatAreToGo();
        deletePending();
        nameCollision();
        isADirectory();
        notADirectory();
        readonlyFiles();
        readonlyDirectories();
        rootIsNotDeleted();
        sharesBothWays();
        sharesOfThoseNotLookedAt();
        notThere();
        whatIsMade();
        emptied();
        emptiedByHalf();
        serialsFrom1();
        orderOfLooking();
        orderOfWhatIsThere();
        orderAtFortyOpens();
        Check.end("CreateEdgeTest");
    }

    private static int create(Peer p, String path, long access, int share, int disposition, int options) {
        return p.status(Peer.create(path, access, share, disposition, options, 0));
    }

    /** "67 (1) OPLOCK: 1 LEVEL II, 8 EXCLUSIVE, 9 BATCH (all others 0: none)". */
    private static void oplocksAsked() {
        int[] asked = {0, 1, 2, 3, 4, 7, 8, 9, 10, 16, 128, 129, 137, 255};
        for (int x : asked) {
            Peer p = Peer.fresh();
            Answer a = p.ask(Peer.create("f", ALL, 7, 2, 0, x));
            Check.eq("OPLOCK " + x, a.n(66, 1), x == 1 || x == 8 || x == 9 ? x : 0);
        }
    }

    /** "SHARE above 7 ..: INVALID_PARAMETER". */
    private static void shareAbove7() {
        Peer p = Peer.fresh();
        long[] above = {8, 9, 15, 256, 0x80000000L, 0xFFFFFFFFL, 0x80000007L};
        for (long share : above) {
            Check.eq("SHARE " + share, p.status(Peer.create("f", ALL, 7, 3, 0, 0).put(96, 4, share)),
                    Status.INVALID_PARAMETER);
        }
        Check.eq("nothing made", p.wire.house.told(2), 1);
        for (int share = 0; share <= 7; share++) {
            Check.eq("SHARE " + share, create(p, "f" + share, ALL, share, 3, 0), Status.OK);
        }
    }

    /** "DISPOSITION above 5". */
    private static void dispositionAbove5() {
        Peer p = Peer.fresh();
        long[] above = {6, 7, 256, 259, 0x80000000L, 0x80000003L, 0xFFFFFFFFL};
        for (long d : above) {
            Check.eq("DISPOSITION " + d, p.status(Peer.create("f", ALL, 7, 3, 0, 0).put(100, 4, d)),
                    Status.INVALID_PARAMETER);
        }
        Check.eq("nothing made", p.wire.house.told(2), 1);
        Check.eq("DISPOSITION 5", create(p, "f", ALL, 7, 5, 0), Status.OK);
        Check.eq("DISPOSITION 0", create(p, "g", ALL, 7, 0, 0), Status.OK);
    }

    /** "OPTIONS with both 1 and 40". */
    private static void directoryAndFile() {
        Peer p = Peer.fresh();
        Check.eq("both", create(p, "f", ALL, 7, 3, DIRECTORY | FILE), Status.INVALID_PARAMETER);
        Check.eq("both and others", create(p, "f", ALL, 7, 3, -1), Status.INVALID_PARAMETER);
        Check.eq("1", create(p, "d", ALL, 7, 3, DIRECTORY), Status.OK);
        Check.eq("40", create(p, "f", ALL, 7, 3, FILE), Status.OK);
        Check.eq("neither", create(p, "g", ALL, 7, 3, 0), Status.OK);
    }

    /** "or 1 and DISPOSITION 0, 4, 5: INVALID_PARAMETER". */
    private static void directoryAndEmptying() {
        int[] dispositions = {0, 1, 2, 3, 4, 5};
        for (int d : dispositions) {
            boolean empties = d == 0 || d == 4 || d == 5;
            Peer p = Peer.fresh();
            int due = empties ? Status.INVALID_PARAMETER : d == 1 ? Status.NAME_NOT_FOUND : Status.OK;
            Check.eq("not there " + d, create(p, "d", ALL, 7, d, DIRECTORY), due);
            p.openDirectory("e");
            due = empties ? Status.INVALID_PARAMETER : d == 2 ? Status.NAME_COLLISION : Status.OK;
            Check.eq("there " + d, create(p, "e", ALL, 7, d, DIRECTORY), due);
        }
    }

    /** "(Other OPTIONS but 1 DIRECTORY, 40 FILE, 1000 GONE ON CLOSE are not looked at.)" */
    private static void otherOptions() {
        for (int bit = 1; bit < 32; bit++) {
            int option = 1 << bit;
            if (option == FILE || option == GONE_ON_CLOSE) {
                continue;
            }
            Peer p = Peer.fresh();
            Answer a = p.ask(Peer.create("f", ALL, 7, 3, option, 9));
            Check.eq("OPTIONS bit " + bit, a.status(), Status.OK);
            Check.eq("a file " + bit, a.n(120, 4), 32);
            p.ask(Peer.close(1));
            Check.eq("it stays " + bit, p.wire.house.told(2), 2);
        }
    }

    /** "ACCESS: 80000000 counts as 00120089, ..; all together, of these bits 001F01FF". */
    private static void accessCountsAs() {
        long[][] counts = {{0x80000000L, 0x00120089}, {0x40000000, 0x00120116}, {0x20000000, 0x001200A0},
            {0x10000000, 0x001F01FF}, {0x02000000, 0x001F01FF}, {0x80000002L, 0x0012008B}, {0xC0000000L, 0x0012019F},
            {0xA0000000L, 0x001200A9}, {0x60000000, 0x001201B6}, {0xFFFFFFFFL, 0x001F01FF}, {0x80, 0x80},
            {0x001F01FF, 0x001F01FF}, {0x0D0E0080, 0x000E0080 & 0x001F01FF}, {0x00200080, 0x80}, {0x00000280, 0x80},
            {0x0000FE80, 0x80}};
        for (long[] x : counts) {
            Peer p = Peer.fresh();
            Check.eq("made", create(p, "f", x[0], 7, 3, 0), Status.OK);
            Answer a = p.ask(Peer.info(1, 1, 18, 80));
            if ((x[1] & 0x80) == 0) {
                Check.eq("no LOOK " + Long.toHexString(x[0]), a.status(), Status.ACCESS_DENIED);
            } else {
                Check.eq("ACCESS " + Long.toHexString(x[0]), a.n(148, 4), x[1]);
            }
        }
        // 40000000 has no LOOK: what it can is tried
        Peer p = Peer.fresh();
        create(p, "f", 0x40000000, 7, 3, 0);
        Check.eq("WRITE", p.status(Peer.write(1, 0, "x")), Status.OK);
        Check.eq("APPEND and WRITE", p.status(Peer.write(1, 5, "x")), Status.OK);
        Check.eq("SET", p.status(Peer.setValues(1, 0, 0, 0, 0, 0)), Status.OK);
        Check.eq("no READ", p.status(Peer.read(1, 0, 1)), Status.ACCESS_DENIED);
        Check.eq("no DELETE", p.status(Peer.setToGo(1, 1)), Status.ACCESS_DENIED);
    }

    /** "none: ACCESS_DENIED". */
    private static void accessOfNone() {
        Peer p = Peer.fresh();
        long[] none = {0, 0x00200000, 0x01000000, 0x04000000, 0x08000000, 0x200, 0x8000, 0x0DE0FE00};
        for (long access : none) {
            Check.eq("ACCESS " + Long.toHexString(access), create(p, "f", access, 7, 3, 0), Status.ACCESS_DENIED);
        }
        Check.eq("nothing made", p.wire.house.told(2), 1);
        long[] some = {1, 2, 4, 8, 0x100, 0x10000, 0x100000};
        for (long access : some) {
            Check.eq("ACCESS " + Long.toHexString(access), create(p, "f", access, 7, 3, 0), Status.OK);
        }
    }

    /** "GONE ON CLOSE without 00010000: ACCESS_DENIED". */
    private static void goneOnCloseNeedsDelete() {
        Peer p = Peer.fresh();
        long[] without = {0x000E01FF, 0x80000000L, 0x40000000, 0x20000000, 1};
        for (long access : without) {
            Check.eq("ACCESS " + access, create(p, "f", access, 7, 3, GONE_ON_CLOSE), Status.ACCESS_DENIED);
        }
        Check.eq("nothing made", p.wire.house.told(2), 1);
        long[] with = {0x10000, 0x10000000, 0x02000000};
        for (long access : with) {
            Check.eq("ACCESS " + access, create(p, "f", access, 7, 3, GONE_ON_CLOSE), Status.OK);
        }
    }

    /** "an odd length .. NAME_INVALID". */
    private static void oddPaths() {
        Peer p = Peer.fresh();
        int[] odd = {1, 3, 5, 7};
        for (int bytes : odd) {
            Check.eq("length " + bytes, p.status(Peer.create("abcd", ALL, 7, 3, 0, 0).put(110, 2, bytes)),
                    Status.NAME_INVALID);
        }
        Check.eq("ahead of PATH_NOT_FOUND", p.status(Peer.create("no\\xx", ALL, 7, 3, 0, 0).put(110, 2, 9)),
                Status.NAME_INVALID);
        Check.eq("even", p.status(Peer.create("abcd", ALL, 7, 3, 0, 0).put(110, 2, 4)), Status.OK);
        Check.eq("its name", create(p, "AB", ALL, 7, 1, 0), Status.OK);
    }

    /** "a NAME that is none: NAME_INVALID", wherever it stands in the path. */
    private static void namesThatAreNone() {
        Peer p = Peer.fresh();
        p.openDirectory("d");
        p.openDirectory("d\\e");
        for (String s : new String[] {"*", "..", "1234567890123", "", "a/b"}) {
            Check.eq("the first: " + s, create(p, s + "\\e\\f", ALL, 7, 3, 0), Status.NAME_INVALID);
            Check.eq("the second: " + s, create(p, "d\\" + s + "\\f", ALL, 7, 3, 0), Status.NAME_INVALID);
            Check.eq("the last: " + s, create(p, "d\\e\\" + s, ALL, 7, 3, 0), Status.NAME_INVALID);
        }
        Check.eq("none of those", create(p, "d\\e\\f", ALL, 7, 3, 0), Status.OK);
        Check.eq("nodes", p.wire.house.told(2), 4);
    }

    /** "one above 240". */
    private static void pathsAbove240() {
        String path = "abcdefghijk\\".repeat(10);
        Peer p = Peer.fresh();
        Check.eq("240", create(p, path.substring(0, 119) + "x", ALL, 7, 3, 0), Status.PATH_NOT_FOUND);
        Check.eq("241", p.status(Peer.create(path + "x", ALL, 7, 3, 0, 0).put(110, 2, 241)), Status.NAME_INVALID);
        Check.eq("242", create(p, path + "x", ALL, 7, 3, 0), Status.NAME_INVALID);
        Check.eq("far above", create(p, path.repeat(10) + "x", ALL, 7, 3, 0), Status.NAME_INVALID);
        // a path of 240 that is there: ten directories, each in the one before
        Peer q = Peer.fresh();
        for (int i = 1; i <= 9; i++) {
            Check.eq("directory " + i, create(q, path.substring(0, 12 * i - 1), ALL, 7, 3, 1), Status.OK);
        }
        Check.eq("240, made", create(q, path.substring(0, 119) + "x", ALL, 7, 3, 0), Status.OK);
    }

    /** An empty path is the root. */
    private static void theRoot() {
        Peer p = Peer.fresh();
        Answer a = p.ask(Peer.create("", ALL, 7, 1, 0, 9));
        Check.eq("opened", a.n(68, 4), 1);
        Check.eq("a DIRECTORY", a.n(120, 4), 16);
        Check.eq("no OPLOCK", a.n(66, 1), 0);
        Check.eq("DISPOSITION 3", create(p, "", ALL, 7, 3, DIRECTORY), Status.OK);
        Check.eq("DISPOSITION 2", create(p, "", ALL, 7, 2, DIRECTORY), Status.NAME_COLLISION);
        Check.eq("FILE", create(p, "", ALL, 7, 1, FILE), Status.IS_A_DIRECTORY);
        Check.eq("emptied", create(p, "", ALL, 7, 5, 0), Status.IS_A_DIRECTORY);
        Check.eq("nodes", p.wire.house.told(2), 1);
    }

    /** "All but the last must be DIRECTORIES that are there .. PATH_NOT_FOUND." */
    private static void directoriesOnTheWay() {
        Peer p = Peer.fresh();
        p.openDirectory("d");
        p.openDirectory("d\\e");
        p.open("f");
        Check.eq("not there", create(p, "x\\y", ALL, 7, 3, 0), Status.PATH_NOT_FOUND);
        Check.eq("not there, below", create(p, "d\\x\\y", ALL, 7, 3, 0), Status.PATH_NOT_FOUND);
        Check.eq("a file", create(p, "f\\y", ALL, 7, 3, 0), Status.PATH_NOT_FOUND);
        Check.eq("of another directory", create(p, "e\\y", ALL, 7, 3, 0), Status.PATH_NOT_FOUND);
        Check.eq("ahead of NAME_NOT_FOUND", create(p, "x\\y", ALL, 7, 1, 0), Status.PATH_NOT_FOUND);
        Check.eq("there", create(p, "D\\E\\y", ALL, 7, 3, 0), Status.OK);
        Check.eq("the last is not there", create(p, "d\\e\\z", ALL, 7, 1, 0), Status.NAME_NOT_FOUND);
        Check.eq("nodes", p.wire.house.told(2), 5);
    }

    /** "none of which is to go: PATH_NOT_FOUND". */
    private static void directoriesThatAreToGo() {
        Peer p = Peer.fresh();
        p.openDirectory("d");
        p.openDirectory("d\\e");
        p.ask(Peer.setToGo(2, 1));
        Check.eq("to go", create(p, "d\\e\\x", ALL, 7, 3, 0), Status.PATH_NOT_FOUND);
        Check.eq("to go, further on the way", create(p, "d\\e\\x\\y", ALL, 7, 3, 0), Status.PATH_NOT_FOUND);
        Check.eq("the last", create(p, "d\\e", ALL, 7, 3, 0), Status.DELETE_PENDING);
        p.ask(Peer.setToGo(2, 0));
        Check.eq("not any more", create(p, "d\\e\\x", ALL, 7, 3, 0), Status.OK);
    }

    /** "to go when it is closed: DELETE_PENDING". */
    private static void deletePending() {
        Peer p = Peer.fresh();
        p.open("f");
        create(p, "g", ALL, 7, 3, GONE_ON_CLOSE);
        p.open("g");
        p.ask(Peer.setToGo(1, 1));
        for (int d = 0; d <= 5; d++) {
            Check.eq("DISPOSITION " + d, create(p, "f", ALL, 7, d, 0), Status.DELETE_PENDING);
        }
        Check.eq("LOOK, too", create(p, "f", 0x80, 7, 1, 0), Status.DELETE_PENDING);
        Check.eq("GONE ON CLOSE, as long as that is open", create(p, "g", ALL, 7, 1, 0), Status.OK);
        p.ask(Peer.close(2));
        Check.eq("closed", create(p, "g", ALL, 7, 1, 0), Status.DELETE_PENDING);
    }

    /** "DISPOSITION 2: NAME_COLLISION". */
    private static void nameCollision() {
        Peer p = Peer.fresh();
        p.open("f");
        p.openDirectory("d");
        Check.eq("a file", create(p, "F", ALL, 7, 2, 0), Status.NAME_COLLISION);
        Check.eq("a directory", create(p, "d", ALL, 7, 2, 0), Status.NAME_COLLISION);
        Check.eq("what is not there", create(p, "g", ALL, 7, 2, 0), Status.OK);
    }

    /** "a DIRECTORY and FILE, or DISPOSITION 0, 4, 5: IS_A_DIRECTORY". */
    private static void isADirectory() {
        for (int d = 0; d <= 5; d++) {
            Peer p = Peer.fresh();
            p.openDirectory("d");
            boolean empties = d == 0 || d == 4 || d == 5;
            int due = d == 2 ? Status.NAME_COLLISION : empties ? Status.IS_A_DIRECTORY : Status.OK;
            Check.eq("DISPOSITION " + d, create(p, "d", ALL, 7, d, 0), due);
            Check.eq("FILE and " + d, create(p, "d", ALL, 7, d, FILE),
                    d == 2 ? Status.NAME_COLLISION : Status.IS_A_DIRECTORY);
        }
    }

    /** "a file and DIRECTORY: NOT_A_DIRECTORY". */
    private static void notADirectory() {
        Peer p = Peer.fresh();
        p.open("f");
        Check.eq("DISPOSITION 1", create(p, "f", ALL, 7, 1, DIRECTORY), Status.NOT_A_DIRECTORY);
        Check.eq("DISPOSITION 3", create(p, "f", ALL, 7, 3, DIRECTORY), Status.NOT_A_DIRECTORY);
        Check.eq("FILE", create(p, "f", ALL, 7, 3, FILE), Status.OK);
    }

    private static Peer withReadonly() {
        Peer p = Peer.fresh();
        p.ask(Peer.create("r", 0x80, 7, 2, 0, 0).put(92, 4, 1));
        return p;
    }

    /** "READONLY: with WRITE, APPEND, or DISPOSITION 0, 4, 5: ACCESS_DENIED; with GONE ON CLOSE: CANNOT_DELETE". */
    private static void readonlyFiles() {
        Peer p = withReadonly();
        long[] denied = {2, 4, 3, 5, 0x40000000, 0x10000000, ALL};
        for (long access : denied) {
            Check.eq("ACCESS " + access, create(p, "r", access, 7, 1, 0), Status.ACCESS_DENIED);
        }
        long[] fits = {1, 8, 0x10, 0x20, 0x40, 0x80, 0x100, 0x10000, 0x80000000L, 0x20000000};
        for (long access : fits) {
            Check.eq("ACCESS " + access, create(p, "r", access, 7, 3, 0), Status.OK);
        }
        Check.eq("GONE ON CLOSE", create(p, "r", 0x10000, 7, 1, GONE_ON_CLOSE), Status.CANNOT_DELETE);
        Check.eq("emptied by 0", create(p, "r", 1, 7, 0, 0), Status.ACCESS_DENIED);
        Check.eq("emptied by 4", create(p, "r", 1, 7, 4, 0), Status.ACCESS_DENIED);
        Check.eq("emptied by 5", create(p, "r", 1, 7, 5, 0), Status.ACCESS_DENIED);
        Peer q = Peer.fresh();
        Answer a = q.ask(Peer.create("r", ALL, 7, 2, GONE_ON_CLOSE, 0).put(92, 4, 1));
        Check.eq("one that is made so may be written, and go", a.status(), Status.OK);
        Check.eq("written", q.status(Peer.write(1, 0, "x")), Status.OK);
        q.ask(Peer.close(1));
        Check.eq("gone", q.wire.house.told(2), 1);
    }

    /** READONLY can be set of a DIRECTORY, too. */
    private static void readonlyDirectories() {
        Peer p = Peer.fresh();
        p.openDirectory("d");
        p.ask(Peer.setValues(1, 0, 0, 0, 0, 1));
        Check.eq("WRITE", create(p, "d", 2, 7, 1, 0), Status.ACCESS_DENIED);
        Check.eq("READ", create(p, "d", 1, 7, 1, 0), Status.OK);
        Check.eq("GONE ON CLOSE", create(p, "d", 0x10000, 7, 1, GONE_ON_CLOSE), Status.CANNOT_DELETE);
        Check.eq("what is made in it", create(p, "d\\x", ALL, 7, 3, 0), Status.OK);
    }

    /** "the root with that: CANNOT_DELETE". */
    private static void rootIsNotDeleted() {
        Peer p = Peer.fresh();
        Check.eq("GONE ON CLOSE", create(p, "", ALL, 7, 1, GONE_ON_CLOSE), Status.CANNOT_DELETE);
        Check.eq("DELETE alone", create(p, "", ALL, 7, 1, 0), Status.OK);
        Check.eq("opens", p.wire.house.told(3), 1);
    }

    /** "READ or RUN wants SHARE 1 of the other one, WRITE or APPEND 2, DELETE 4: else SHARING", both ways. */
    private static void sharesBothWays() {
        long[] access = {1, 0x20, 2, 4, 0x10000};
        int[] bit = {1, 1, 2, 2, 4};
        for (int i = 0; i < access.length; i++) {
            Peer p = Peer.fresh();
            create(p, "has", access[i], 7, 3, 0);
            create(p, "lets", 0x21, 7 & ~bit[i], 3, 0);
            create(p, "alone", 0x21, bit[i], 3, 0);
            int others = 7 & ~bit[i];
            Check.eq("not shared by the new one " + i, create(p, "has", 1, others | 0, 3, 0), Status.SHARING);
            Check.eq("shared by the new one " + i, create(p, "has", 1, bit[i], 3, 0), Status.OK);
            Check.eq("not shared by the other " + i, create(p, "lets", access[i], 7, 3, 0), Status.SHARING);
            Check.eq("shared by the other " + i, create(p, "alone", access[i], 7, 3, 0), Status.OK);
        }
        Peer p = Peer.fresh();
        create(p, "f", 0x10003, 3, 3, 0);
        Check.eq("two of three", create(p, "f", 0x10003, 7, 3, 0), Status.SHARING);
        Check.eq("those two", create(p, "f", 3, 7, 3, 0), Status.OK);
        Check.eq("a third looks at each other", create(p, "f", 1, 5, 3, 0), Status.SHARING);
        Check.eq("another file", create(p, "g", ALL, 0, 3, 0), Status.OK);
        p.openDirectory("d");
        Check.eq("a directory", create(p, "d", ALL, 0, 3, 1), Status.SHARING);
    }

    /** "others are not looked at, both ways". */
    private static void sharesOfThoseNotLookedAt() {
        Peer p = Peer.fresh();
        create(p, "f", ALL, 0, 3, 0);
        long[] others = {8, 0x10, 0x40, 0x80, 0x100, 0x20000, 0x100000, 0x1E01D8};
        for (long access : others) {
            Check.eq("ACCESS " + access, create(p, "f", access, 0, 3, 0), Status.OK);
        }
        Check.eq("the first is", create(p, "f", 1, 7, 3, 0), Status.SHARING);
        Peer q = Peer.fresh();
        create(q, "f", 0x1E01D8, 0, 3, 0);
        Check.eq("the other way", create(q, "f", ALL, 0, 3, 0), Status.OK);
    }

    /** "What is not there: DISPOSITION 1, 4: NAME_NOT_FOUND". */
    private static void notThere() {
        for (int d = 0; d <= 5; d++) {
            Peer p = Peer.fresh();
            boolean none = d == 1 || d == 4;
            Answer a = p.ask(Peer.create("f", ALL, 0, d, 0, 0));
            Check.eq("DISPOSITION " + d, a.status(), none ? Status.NAME_NOT_FOUND : Status.OK);
            Check.eq("nodes " + d, p.wire.house.told(2), none ? 1 : 2);
            Check.eq("records " + d, p.wire.house.told(1), none ? 0 : 1);
            if (!none) {
                Check.eq("made " + d, a.n(68, 4), 2);
            }
        }
    }

    /** "a DIRECTORY with DIRECTORY, else a file ..), all TIMES NOW". */
    private static void whatIsMade() {
        Peer p = Peer.fresh();
        p.wire.house.tick(1000);
        for (int options : new int[] {0, FILE, DIRECTORY}) {
            Answer a = p.ask(Peer.create("n" + options, ALL, 7, 3, options, 0));
            Check.eq("ATTRIBUTES", a.n(120, 4), options == DIRECTORY ? 16 : 32);
            for (int at = 72; at <= 96; at += 8) {
                Check.eq("TIMES", a.n(at, 8), 1000);
            }
            Check.eq("SIZE and room", a.n(104, 8) | a.n(112, 8), 0);
        }
    }

    /** "DISPOSITION 0, 4, 5 of a file that is there: its SIZE is 0, ..; then ATTRIBUTES are as of a new one (0) or ..". */
    private static void emptied() {
        for (int d : new int[] {0, 4, 5}) {
            Peer p = Peer.fresh();
            p.open("f");
            p.ask(Peer.write(1, 0, "0123456789"));
            p.ask(Peer.setValues(1, 7, 8, 9, 10, 2 | 32));
            p.ask(Peer.flush(1));
            p.wire.house.tick(100);
            Answer a = p.ask(Peer.create("f", 0x80, 7, d, 0, 0).put(92, 4, 4 | 16 | 64));
            Check.eq("what was done " + d, a.n(68, 4), d == 0 ? 0 : 3);
            Check.eq("made " + d, a.n(72, 8), 7);
            Check.eq("looked at " + d, a.n(80, 8), 8);
            Check.eq("written " + d, a.n(88, 8), 100);
            Check.eq("changed " + d, a.n(96, 8), 100);
            Check.eq("SIZE " + d, a.n(104, 8) | a.n(112, 8), 0);
            Check.eq("ATTRIBUTES " + d, a.n(120, 4), d == 0 ? 4 | 32 : 2 | 4 | 32);
            Check.eq("two records " + d, p.wire.house.told(1), 2);
            Check.eq("nodes " + d, p.wire.house.told(2), 2);
            p.ask(Peer.setSize(1, 4));
            Check.eq("bytes that come are 0 " + d, p.ask(Peer.read(1, 0, 4)).n(80, 4), 0);
        }
        Peer p = Peer.fresh();
        p.open("f");
        p.ask(Peer.write(1, 0, "abc"));
        for (int d : new int[] {1, 3}) {
            Check.eq("opened by " + d, p.ask(Peer.create("f", ALL, 7, d, 0, 0)).n(112, 8), 3);
        }
    }

    /** "its SIZE is 0, written and changed NOW; then ATTRIBUTES": two RECORDS, of which the first alone may come. */
    private static void emptiedByHalf() {
        for (int k = 0; k <= 2; k++) {
            Peer p = Peer.fresh();
            p.open("f");
            p.ask(Peer.write(1, 0, "abc"));
            p.ask(Peer.setValues(1, 1, 2, 3, 4, 2));
            p.ask(Peer.flush(1));
            p.wire.house.tick(50);
            p.ask(Peer.create("f", 1, 7, 0, 0, 0).put(92, 4, 4));
            Check.eq("crash", p.wire.house.crash(k), 2);
            Answer a = Peer.on(p.wire, 0).ask(Peer.create("f", 1, 7, 1, 0, 0));
            Check.eq("SIZE " + k, a.n(112, 8), k == 0 ? 3 : 0);
            Check.eq("made " + k, a.n(72, 8), 1);
            Check.eq("looked at " + k, a.n(80, 8), 2);
            Check.eq("written " + k, a.n(88, 8), k == 0 ? 3 : 50);
            Check.eq("changed " + k, a.n(96, 8), k == 0 ? 4 : 50);
            Check.eq("ATTRIBUTES " + k, a.n(120, 4), k == 2 ? 4 | 32 : 2);
        }
    }

    /** "its serial (from 1 on) twice". */
    private static void serialsFrom1() {
        Peer p = Peer.fresh();
        for (int i = 1; i <= 3; i++) {
            Answer a = p.ask(Peer.create("f", ALL, 7, 3, 0, 0));
            Check.eq("serial", a.n(128, 8), i);
            Check.eq("twice", a.n(136, 8), i);
            p.ask(Peer.create("f", ALL, 7, 2, 0, 0));
        }
        p.ask(Peer.close(2));
        Check.eq("not used again", p.ask(Peer.create("f", ALL, 7, 3, 0, 0)).n(128, 8), 4);
    }

    /** Each stands ahead of all that come behind it: the first fault is mended, then the next one. */
    private static void orderOfLooking() {
        Peer p = Peer.fresh();
        p.open("f");
        Req r = Peer.create("no\\*", 0, 8, 6, DIRECTORY | FILE | GONE_ON_CLOSE, 0).put(64, 2, 56);
        Check.eq("SESSION", p.status2(r.copy(), 9, 9), Status.SESSION_GONE);
        Check.eq("TREE", p.status2(r.copy(), p.session, 9), Status.TREE_GONE);
        Check.eq("the body", p.status(r.copy()), Status.INVALID_PARAMETER);
        r.put(64, 2, 57);
        Check.eq("SHARE", p.status(r.copy()), Status.INVALID_PARAMETER);
        r.put(96, 4, 7);
        Check.eq("DISPOSITION", p.status(r.copy()), Status.INVALID_PARAMETER);
        r.put(100, 4, 0);
        Check.eq("1 and 40", p.status(r.copy()), Status.INVALID_PARAMETER);
        r.put(104, 4, DIRECTORY | GONE_ON_CLOSE);
        Check.eq("1 and DISPOSITION", p.status(r.copy()), Status.INVALID_PARAMETER);
        r.put(104, 4, GONE_ON_CLOSE);
        Check.eq("ACCESS of none", p.status(r.copy()), Status.ACCESS_DENIED);
        r.put(88, 4, 1);
        Check.eq("GONE ON CLOSE without DELETE", p.status(r.copy()), Status.ACCESS_DENIED);
        r.put(88, 4, ALL);
        Check.eq("NAME_INVALID", p.status(r.copy()), Status.NAME_INVALID);
        r.units((int) r.n(108, 2), "no\\x");
        Check.eq("PATH_NOT_FOUND", p.status(r.copy()), Status.PATH_NOT_FOUND);
        Check.eq("nothing made", p.wire.house.told(2), 2);
    }

    private static void orderOfWhatIsThere() {
        Peer p = Peer.fresh();
        p.openDirectory("d");
        p.open("f");
        p.ask(Peer.setValues(1, 0, 0, 0, 0, 1));
        Check.eq("NAME_COLLISION ahead of IS_A_DIRECTORY", create(p, "d", ALL, 7, 2, FILE), Status.NAME_COLLISION);
        Check.eq("NAME_COLLISION ahead of NOT_A_DIRECTORY", create(p, "f", ALL, 7, 2, DIRECTORY), Status.NAME_COLLISION);
        Check.eq("IS_A_DIRECTORY ahead of READONLY", create(p, "d", ALL, 7, 1, FILE), Status.IS_A_DIRECTORY);
        Check.eq("READONLY ahead of GONE ON CLOSE", create(p, "d", ALL, 7, 1, GONE_ON_CLOSE), Status.ACCESS_DENIED);
        Check.eq("GONE ON CLOSE ahead of SHARING", create(p, "d", 0x10001, 0, 1, GONE_ON_CLOSE), Status.CANNOT_DELETE);
        p.ask(Peer.setValues(2, 0, 0, 0, 0, 1));
        Check.eq("NOT_A_DIRECTORY ahead of READONLY", create(p, "f", ALL, 7, 1, DIRECTORY), Status.NOT_A_DIRECTORY);
        Check.eq("READONLY ahead of SHARING", create(p, "f", ALL, 0, 1, 0), Status.ACCESS_DENIED);
        Check.eq("SHARING", create(p, "f", 1, 0, 1, 0), Status.SHARING);
        p.ask(Peer.setValues(2, 0, 0, 0, 0, 32));
        p.ask(Peer.setToGo(2, 1));
        Check.eq("DELETE_PENDING ahead of NAME_COLLISION", create(p, "f", ALL, 7, 2, 0), Status.DELETE_PENDING);
        Check.eq("and of NOT_A_DIRECTORY", create(p, "f", ALL, 7, 1, DIRECTORY), Status.DELETE_PENDING);
        p.openDirectory("e");
        p.ask(Peer.setToGo(3, 1));
        Check.eq("and of IS_A_DIRECTORY", create(p, "e", ALL, 7, 1, FILE), Status.DELETE_PENDING);
    }

    /** "40 opens: RESOURCES. Then what part 5 tells of it". */
    private static void orderAtFortyOpens() {
        Wire w = new Wire();
        w.share(0, "DATA");
        Peer p = Peer.on(w, 0);
        p.open("b", 9);
        Req[] many = new Req[19];
        for (int round = 0; round < 2; round++) {
            for (int i = 0; i < many.length; i++) {
                many[i] = Peer.shortCreate("f", 1, 1, 3, 0, 0);
            }
            p.askAll(many);
        }
        Check.eq("39", w.house.told(3), 39);
        Check.eq("the 40th", create(p, "f", 1, 1, 3, 0), Status.OK);
        Check.eq("the 41st", create(p, "f", 1, 1, 3, 0), Status.RESOURCES);
        Check.eq("ahead of SHARING", create(p, "f", 1, 0, 3, 0), Status.RESOURCES);
        Check.eq("ahead of BATCH", create(p, "b", ALL, 7, 3, 0), Status.RESOURCES);
        Check.eq("no BREAK", p.notes.size(), 0);
        Check.eq("not emptied", create(p, "f", 1, 1, 5, 0), Status.RESOURCES);
        Check.eq("behind DELETE_PENDING and the like", create(p, "f", 1, 1, 3, DIRECTORY), Status.NOT_A_DIRECTORY);
        Check.eq("what is not there: behind NAME_NOT_FOUND", create(p, "x", 1, 1, 4, 0), Status.NAME_NOT_FOUND);
        Check.eq("what is not there", create(p, "x", 1, 1, 3, 0), Status.RESOURCES);
        Check.eq("nodes", w.house.told(2), 3);
        List<Answer> all = p.askAll(Peer.close(7), Peer.shortCreate("f", 1, 1, 3, 0, 0));
        Check.eq("room for one", all.get(1).status(), Status.OK);
    }
}
