/** Promise 7, part 4: CREATE, CLOSE, FLUSH, READ, WRITE. */
public final class CreateTest {
    private static final int ALL = Peer.ALL;

    private CreateTest() {
    }

    public static void main(String[] args) {
        answers();
        parameters();
        access();
        paths();
        pathsOfDirectories();
        whatIsThere();
        readonly();
        shares();
        whatIsNotThere();
        empties();
        fortyOpens();
        closes();
        goneOnClose();
        flushes();
        reads();
        writes();
        Check.end("CreateTest");
    }

    private static int create(Peer p, String path, long access, int share, int disposition, int options) {
        return p.status(Peer.create(path, access, share, disposition, options, 0));
    }

    private static void answers() {
        Peer p = Peer.fresh();
        p.wire.house.tick(9);
        Answer a = p.ask(Peer.create("F.txt", ALL, 0, 2, 0, 9).put(92, 4, 0xFFFFFFFFL));
        Check.eq("length", a.length(), 152);
        Check.eq("64", a.n(64, 2), 89);
        Check.eq("OPLOCK", a.n(66, 2), 9);
        Check.eq("made", a.n(68, 4), 2);
        for (int at = 72; at <= 96; at += 8) {
            Check.eq("times", a.n(at, 8), 9);
        }
        Check.eq("room and SIZE", a.n(104, 8) | a.n(112, 8), 0);
        Check.eq("ATTRIBUTES", a.n(120, 8), 0x27);
        Check.eq("serial", a.n(128, 8), 1);
        Check.eq("twice", a.n(136, 8), 1);
        Check.eq("the end", a.n(144, 8), 0);
        p.ask(Peer.write(1, 512, "x"));
        p.ask(Peer.close(1));
        p.wire.house.tick(1);
        a = p.ask(Peer.create("f.TXT", 0x80, 7, 1, 0, 77));
        Check.eq("opened", a.n(68, 4), 1);
        Check.eq("OPLOCK 77 is none", a.n(66, 1), 0);
        Check.eq("looked at", a.n(80, 8), 9);
        Check.eq("room", a.n(104, 8), 1024);
        Check.eq("SIZE", a.n(112, 8), 513);
        a = p.ask(Peer.create("d", ALL, 7, 2, 1, 9).put(92, 4, 0x2F));
        Check.eq("a directory's OPLOCK", a.n(66, 1), 0);
        Check.eq("its ATTRIBUTES", a.n(120, 4), 16 | 6);
        Check.eq("its room", a.n(104, 8), 0);
        a = p.ask(Peer.create("", ALL, 7, 1, 0, 0));
        Check.eq("the root", a.n(120, 4), 16);
        a = p.ask(Peer.create("", ALL, 7, 3, 1, 0));
        Check.eq("the root, as a directory", a.status(), 0);
        Check.eq("opens", p.wire.house.told(3), 4);
    }

    private static void parameters() {
        Peer p = Peer.fresh();
        Check.eq("SHARE 8", create(p, "f", ALL, 8, 3, 0), Status.INVALID_PARAMETER);
        Check.eq("SHARE with its highest bit", p.status(Peer.create("f", ALL, 7, 3, 0, 0).put(99, 1, 128)),
                Status.INVALID_PARAMETER);
        Check.eq("DISPOSITION 6", create(p, "f", ALL, 7, 6, 0), Status.INVALID_PARAMETER);
        Check.eq("1 and 40", create(p, "f", ALL, 7, 3, 0x41), Status.INVALID_PARAMETER);
        int[] emptying = {0, 4, 5};
        for (int d : emptying) {
            Check.eq("1 and DISPOSITION " + d, create(p, "f", ALL, 7, d, 1), Status.INVALID_PARAMETER);
        }
        Check.eq("ahead of ACCESS", create(p, "a*", 0, 8, 3, 0), Status.INVALID_PARAMETER);
        Check.eq("other OPTIONS", create(p, "f", ALL, 7, 3, 0xFFFFEFBE), Status.OK);
        Check.eq("size", p.status(Peer.create("g", ALL, 7, 3, 0, 0).put(64, 2, 56)), Status.INVALID_PARAMETER);
        Check.eq("length", p.status(Peer.create("", ALL, 7, 3, 0, 0).length(119)), Status.INVALID_PARAMETER);
    }

    private static void access() {
        Peer p = Peer.fresh();
        long[][] both = {{0x80000000L, 0x00120089}, {0x40000000, 0x00120116}, {0x20000000, 0x001200A0},
            {0x10000000, 0x001F01FF}, {0x02000000, 0x001F01FF}, {0xC0000000L, 0x0012019F}, {0xFFFFFFFFL, 0x001F01FF},
            {0x01000081, 0x81}};
        for (long[] x : both) {
            long f = p.ask(Peer.create("f", x[0], 7, 3, 0, 0)).n(128, 8);
            Answer a = p.ask(Peer.info(f, 1, 18, 80));
            if ((x[1] & 0x80) != 0) {
                Check.eq("ACCESS " + Long.toHexString(x[0]), a.n(148, 4), x[1]);
            } else {
                Check.eq("without LOOK", a.status(), Status.ACCESS_DENIED);
            }
        }
        Check.eq("none", create(p, "f", 0, 7, 3, 0), Status.ACCESS_DENIED);
        Check.eq("none of these bits", create(p, "f", 0x01000000, 7, 3, 0), Status.ACCESS_DENIED);
        Check.eq("GONE ON CLOSE", create(p, "f", 0x40000000, 7, 3, 0x1000), Status.ACCESS_DENIED);
        Check.eq("with DELETE", create(p, "g", 0x00010000, 7, 3, 0x1000), Status.OK);
        Check.eq("ahead of the path", create(p, "a*", 0, 7, 3, 0), Status.ACCESS_DENIED);
    }

    private static void paths() {
        Peer p = Peer.fresh();
        String[] none = {"\\", "\\a", "a\\", "a\\\\b", ".", "..", "a\\..", "abcdefghijklm", "a/b", "a:b", "a*", "a?",
            "a\"", "<", ">", "|", "a\u001f", "a\u007f", "\u0141"};
        for (String s : none) {
            Check.eq("no path " + s, create(p, s, ALL, 7, 3, 0), Status.NAME_INVALID);
        }
        Check.eq("odd", p.status(Peer.create("ab", ALL, 7, 3, 0, 0).put(110, 2, 3)), Status.NAME_INVALID);
        String[] names = {" ", "...", "abcdefghijkl", "a b.c", "~!#$%&'()+,-", "{}[]^_`@=;.."};
        for (String s : names) {
            Check.eq("a path " + s, create(p, s, ALL, 7, 2, 0), s.length() > 12 ? Status.NAME_INVALID : Status.OK);
        }
    }

    private static void pathsOfDirectories() {
        Peer p = Peer.fresh();
        p.open("...");
        Check.eq("no directory", create(p, "no\\f", ALL, 7, 3, 0), Status.PATH_NOT_FOUND);
        Check.eq("a file on the way", create(p, "...\\f", ALL, 7, 3, 0), Status.PATH_NOT_FOUND);
        Check.eq("NAME_INVALID is ahead", create(p, "no\\*", ALL, 7, 3, 0), Status.NAME_INVALID);
        long d = p.openDirectory("Dir");
        Check.eq("below", create(p, "dIR\\f", ALL, 7, 2, 0), Status.OK);
        Check.eq("the same name", create(p, "DIR\\F", ALL, 7, 2, 0), Status.NAME_COLLISION);
        Check.eq("from a to z", create(p, "dir\\azAZ@[`{", ALL, 7, 2, 0), Status.OK);
        Check.eq("and A to Z", create(p, "dir\\AZaz@[`{", ALL, 7, 2, 0), Status.NAME_COLLISION);
        Check.eq("but not beside them", create(p, "dir\\AZaz`{@[", ALL, 7, 1, 0), Status.NAME_NOT_FOUND);
        Check.eq("not in the root", create(p, "F", ALL, 7, 1, 0), Status.NAME_NOT_FOUND);
        long e = p.openDirectory("Dir\\e");
        Check.eq("to go", p.status(Peer.setToGo(e, 1)), Status.OK);
        Check.eq("a directory that is to go", create(p, "Dir\\e\\f", ALL, 7, 3, 0), Status.PATH_NOT_FOUND);
        Check.eq("it itself", create(p, "Dir\\e", ALL, 7, 1, 0), Status.DELETE_PENDING);
        Check.eq("the upper one stays", p.status(Peer.read(d, 0, 0)), Status.IS_A_DIRECTORY);
        StringBuilder deep = new StringBuilder();
        for (int i = 0; i < 60; i++) {
            deep.append(i == 0 ? "" : "\\").append("a");
        }
        Check.eq("238", create(p, deep.toString(), ALL, 7, 3, 0), Status.PATH_NOT_FOUND);
        Check.eq("240", create(p, deep + "b", ALL, 7, 3, 0), Status.PATH_NOT_FOUND);
        Check.eq("242", create(p, deep + "bc", ALL, 7, 3, 0), Status.NAME_INVALID);
    }

    private static void whatIsThere() {
        Peer p = Peer.fresh();
        long f = p.open("f");
        p.openDirectory("d");
        Check.eq("DISPOSITION 2", create(p, "f", ALL, 7, 2, 1), Status.NAME_COLLISION);
        Check.eq("the root", create(p, "", ALL, 7, 2, 0), Status.NAME_COLLISION);
        Check.eq("FILE", create(p, "d", ALL, 7, 1, 0x40), Status.IS_A_DIRECTORY);
        Check.eq("DISPOSITION 0", create(p, "d", ALL, 7, 0, 0), Status.IS_A_DIRECTORY);
        Check.eq("DISPOSITION 4", create(p, "d", ALL, 7, 4, 0), Status.IS_A_DIRECTORY);
        Check.eq("DISPOSITION 5", create(p, "d", ALL, 7, 5, 0), Status.IS_A_DIRECTORY);
        Check.eq("DIRECTORY", create(p, "f", ALL, 7, 3, 1), Status.NOT_A_DIRECTORY);
        Check.eq("FILE of a file", create(p, "f", ALL, 7, 3, 0x40), Status.OK);
        Check.eq("DIRECTORY of one", create(p, "d", ALL, 7, 1, 1), Status.OK);
        Check.eq("neither", create(p, "d", ALL, 7, 3, 0), Status.OK);
        Check.eq("the root is not deleted", create(p, "", ALL, 7, 1, 0x1000), Status.CANNOT_DELETE);
        p.ask(Peer.setToGo(f, 1));
        Check.eq("to go", create(p, "f", ALL, 7, 2, 0), Status.DELETE_PENDING);
        p.ask(Peer.setToGo(f, 0));
        Check.eq("not to go", create(p, "f", ALL, 7, 1, 0), Status.OK);
    }

    private static void readonly() {
        Peer p = Peer.fresh();
        Answer a = p.ask(Peer.create("r", ALL, 7, 2, 0, 0).put(92, 4, 1));
        Check.eq("made READONLY", a.n(120, 4), 33);
        Check.eq("WRITE", create(p, "r", 2, 7, 1, 0), Status.ACCESS_DENIED);
        Check.eq("APPEND", create(p, "r", 4, 7, 1, 0), Status.ACCESS_DENIED);
        Check.eq("emptied", create(p, "r", 1, 7, 5, 0), Status.ACCESS_DENIED);
        Check.eq("GONE ON CLOSE", create(p, "r", 0x10001, 7, 1, 0x1000), Status.CANNOT_DELETE);
        Check.eq("WRITE is ahead", create(p, "r", 0x10002, 7, 1, 0x1000), Status.ACCESS_DENIED);
        Check.eq("READ", create(p, "r", 0x10181, 7, 1, 0), Status.OK);
    }

    private static void shares() {
        int[] access = {1, 0x20, 2, 4, 0x10000, 0x80};
        int[] bit = {1, 1, 2, 2, 4, 0};
        for (int i = 0; i < access.length; i++) {
            for (int j = 0; j < access.length; j++) {
                for (int share = 0; share < 8; share++) {
                    Peer p = Peer.fresh();
                    long f = p.ask(Peer.create("f", access[i], share, 3, 0, 0)).n(128, 8);
                    boolean both = bit[i] != 0 && bit[j] != 0;
                    boolean may = !both || (bit[j] & share) != 0;
                    Answer a = p.ask(Peer.create("f", access[j], 7, 3, 0, 0));
                    Check.eq("what it shares " + i + j + share, a.status(), may ? Status.OK : Status.SHARING);
                    if (may) {
                        p.ask(Peer.close(a.n(128, 8)));
                    }
                    p.ask(Peer.close(f));
                    f = p.ask(Peer.create("f", access[j], 7, 3, 0, 0)).n(128, 8);
                    a = p.ask(Peer.create("f", access[i], share, 3, 0, 0));
                    Check.eq("the other way " + i + j + share, a.status(), may ? Status.OK : Status.SHARING);
                    if (may) {
                        p.ask(Peer.close(a.n(128, 8)));
                    }
                    p.ask(Peer.close(f));
                }
            }
        }
        Peer p = Peer.fresh();
        p.openDirectory("d");
        Check.eq("directories, too", create(p, "d", ALL, 3, 1, 0), Status.SHARING);
    }

    private static void whatIsNotThere() {
        Peer p = Peer.fresh();
        Check.eq("DISPOSITION 1", create(p, "f", ALL, 7, 1, 0), Status.NAME_NOT_FOUND);
        Check.eq("DISPOSITION 4", create(p, "f", ALL, 7, 4, 0), Status.NAME_NOT_FOUND);
        int[] making = {0, 2, 3, 5};
        for (int d : making) {
            Answer a = p.ask(Peer.create("f" + d, 1, 0, d, 0, 0));
            Check.eq("DISPOSITION " + d, a.status(), 0);
            Check.eq("made by " + d, a.n(68, 4), 2);
            Check.eq("ARCHIVE by " + d, a.n(120, 4), 32);
        }
        Check.eq("nodes", p.wire.house.told(2), 5);
        Check.eq("records", p.wire.house.told(1), 4);
    }

    private static void empties() {
        Peer p = Peer.fresh();
        int[] emptying = {0, 4, 5};
        for (int d : emptying) {
            long f = p.open("f" + d);
            p.ask(Peer.write(f, 0, "hello"));
            p.ask(Peer.setValues(f, 0, 0, 0, 0, 2));
            p.ask(Peer.close(f));
            p.wire.house.tick(5);
            Answer a = p.ask(Peer.create("f" + d, 1, 7, d, 0, 0).put(92, 4, 4));
            Check.eq("status " + d, a.status(), 0);
            Check.eq("what was done " + d, a.n(68, 4), d == 0 ? 0 : 3);
            Check.eq("SIZE " + d, a.n(112, 8), 0);
            Check.eq("ATTRIBUTES " + d, a.n(120, 4), d == 0 ? 36 : 38);
            Check.eq("made stays " + d, a.n(72, 8), p.wire.house.told(0) - 5);
            Check.eq("written " + d, a.n(88, 8), p.wire.house.told(0));
            Check.eq("changed " + d, a.n(96, 8), p.wire.house.told(0));
            Check.eq("two records " + d, p.wire.house.told(1), 2);
            p.ask(Peer.close(a.n(128, 8)));
        }
    }

    private static void fortyOpens() {
        Peer p = Peer.fresh();
        Req[] forty = new Req[40];
        for (int i = 0; i < 40; i++) {
            forty[i] = Peer.shortCreate("f", ALL, 7, 3, 0, 0);
        }
        for (int i = 0; i < 40; i += 20) {
            for (Answer a : p.askAll(java.util.Arrays.copyOfRange(forty, i, i + 20))) {
                Check.eq("open", a.status(), Status.OK);
            }
        }
        Check.eq("opens", p.wire.house.told(3), 40);
        Check.eq("the 41st", create(p, "f", ALL, 7, 3, 0), Status.RESOURCES);
        Check.eq("of what is not there", create(p, "g", ALL, 7, 3, 0), Status.RESOURCES);
        Check.eq("behind NAME_NOT_FOUND", create(p, "g", ALL, 7, 1, 0), Status.NAME_NOT_FOUND);
        Check.eq("behind NAME_COLLISION", create(p, "f", ALL, 7, 2, 0), Status.NAME_COLLISION);
        Check.eq("behind CANNOT_DELETE", create(p, "", ALL, 7, 1, 0x1000), Status.CANNOT_DELETE);
        Check.eq("ahead of SHARING", create(p, "f", ALL, 0, 3, 0), Status.RESOURCES);
        Check.eq("opens still", p.wire.house.told(3), 40);
        Check.eq("nodes still", p.wire.house.told(2), 2);
        p.ask(Peer.close(7));
        Check.eq("room again", create(p, "f", ALL, 7, 3, 0), Status.OK);
    }

    private static void closes() {
        Peer p = Peer.fresh();
        p.wire.house.tick(3);
        long f = p.open("f");
        p.wire.house.tick(3);
        p.ask(Peer.write(f, 0, "abc"));
        Check.eq("two records wait", p.wire.house.told(1), 2);
        Check.eq("not that one", p.status(Peer.close(f + 1)), Status.FILE_CLOSED);
        Answer a = p.ask(Peer.close(f).put(66, 2, 0xFFFF));
        Check.eq("length", a.length(), 124);
        Check.eq("body", a.n(64, 4), 60 | 1 << 16);
        Check.eq("68", a.n(68, 4), 0);
        Check.eq("made", a.n(72, 8), 3);
        Check.eq("looked at", a.n(80, 8), 3);
        Check.eq("written", a.n(88, 8), 6);
        Check.eq("changed", a.n(96, 8), 6);
        Check.eq("room", a.n(104, 8), 512);
        Check.eq("SIZE", a.n(112, 8), 3);
        Check.eq("ATTRIBUTES", a.n(120, 4), 32);
        Check.eq("records came", p.wire.house.told(1), 0);
        Check.eq("it is closed", p.status(Peer.close(f)), Status.FILE_CLOSED);
        a = p.ask(Peer.close(p.open("f")).put(66, 2, 2));
        Check.eq("FLAGS without 1", a.n(66, 2), 0);
        for (int at = 68; at < 124; at += 4) {
            Check.eq("0", a.n(at, 4), 0);
        }
    }

    private static void goneOnClose() {
        Peer p = Peer.fresh();
        long f = p.ask(Peer.create("f", ALL, 7, 3, 0x1000, 0)).n(128, 8);
        long g = p.open("f");
        Check.eq("not to go yet", p.ask(Peer.info(g, 1, 5, 24)).n(88, 5), 1);
        p.ask(Peer.close(f));
        Check.eq("to go", p.ask(Peer.info(g, 1, 5, 24)).n(88, 5), 1L << 32);
        Check.eq("not opened any more", create(p, "f", ALL, 7, 3, 0), Status.DELETE_PENDING);
        Check.eq("still there", p.wire.house.told(2), 2);
        Answer a = p.ask(Peer.close(g).put(66, 2, 1));
        Check.eq("as it was before it went", a.n(120, 4), 32);
        Check.eq("gone", p.wire.house.told(2), 1);
        Check.eq("on the disk, too", p.wire.house.told(8), 1);
        // taken back by another open
        f = p.ask(Peer.create("f", ALL, 7, 3, 0x1000, 0)).n(128, 8);
        g = p.open("f");
        p.ask(Peer.close(f));
        p.ask(Peer.setToGo(g, 0));
        p.ask(Peer.close(g));
        Check.eq("it stays", p.wire.house.told(2), 2);
        // a directory with something in it
        long d = p.ask(Peer.create("d", ALL, 7, 3, 0x1001, 0)).n(128, 8);
        long e = p.openDirectory("d");
        p.ask(Peer.close(p.open("d\\x")));
        p.ask(Peer.close(d));
        Check.eq("to go as long as it is open", p.ask(Peer.info(e, 1, 5, 24)).n(92, 1), 1);
        p.ask(Peer.close(e));
        Check.eq("it stays, too", p.wire.house.told(2), 4);
        Check.eq("and is not to go any more", create(p, "d\\x", ALL, 7, 1, 0), Status.OK);
        d = p.ask(Peer.create("e", ALL, 7, 3, 0x1001, 0)).n(128, 8);
        p.ask(Peer.close(d));
        Check.eq("an empty one goes", create(p, "e", ALL, 7, 1, 0), Status.NAME_NOT_FOUND);
    }

    private static void flushes() {
        Peer p = Peer.fresh();
        long f = p.open("f");
        long look = p.ask(Peer.create("f", 0x81, 7, 3, 0, 0)).n(128, 8);
        long append = p.ask(Peer.create("f", 0x4, 7, 3, 0, 0)).n(128, 8);
        Check.eq("a record waits", p.wire.house.told(1), 1);
        Check.eq("without WRITE", p.status(Peer.flush(look)), Status.ACCESS_DENIED);
        Check.eq("it waits on", p.wire.house.told(1), 1);
        Answer a = p.ask(Peer.flush(f));
        Check.eq("OK", a.status(), 0);
        Check.eq("length", a.length(), 68);
        Check.eq("body", a.n(64, 4), 4);
        Check.eq("it came", p.wire.house.told(1), 0);
        Check.eq("APPEND", p.status(Peer.flush(append)), Status.OK);
    }

    private static void reads() {
        Peer p = Peer.fresh();
        long f = p.open("f");
        long d = p.openDirectory("d");
        long w = p.ask(Peer.create("f", 0x22, 7, 3, 0, 0)).n(128, 8);
        p.ask(Peer.write(f, 0, "0123456789"));
        Answer a = p.ask(Peer.read(f, 2, 4));
        Check.eq("length", a.length(), 84);
        Check.eq("body", a.n(64, 4), 17 | 80 << 16);
        Check.eq("how many", a.n(68, 4), 4);
        Check.eq("bytes", a.n(80, 4), '2' | '3' << 8 | '4' << 16 | '5' << 24);
        Check.eq("the rest", p.ask(Peer.read(f, 8, 1024)).n(68, 4), 2);
        Check.eq("1025", p.status(Peer.read(f, 0, 1025)), Status.INVALID_PARAMETER);
        Check.eq("a directory, 1025", p.status(Peer.read(d, 0, 1025)), Status.INVALID_PARAMETER);
        Check.eq("a directory", p.status(Peer.read(d, 0, 1)), Status.IS_A_DIRECTORY);
        Check.eq("without READ", p.status(Peer.read(w, 0, 1)), Status.ACCESS_DENIED);
        Check.eq("at the end", p.status(Peer.read(f, 10, 1)), Status.END_OF_FILE);
        Check.eq("far behind", p.status(Peer.read(f, -1L, 1)), Status.END_OF_FILE);
        a = p.ask(Peer.read(f, 10, 0));
        Check.eq("none at the end", a.status(), Status.OK);
        Check.eq("one byte 0", a.length(), 81);
        Check.eq("it is 0", a.n(80, 1), 0);
        Check.eq("none of them", a.n(68, 4), 0);
        Check.eq("none far behind", p.status(Peer.read(f, -1L, 0)), Status.OK);
        Check.eq("least", p.status(Peer.read(f, 8, 5).put(96, 4, 3)), Status.END_OF_FILE);
        Check.eq("least is there", p.status(Peer.read(f, 8, 5).put(96, 4, 2)), Status.OK);
        Check.eq("least above many", p.status(Peer.read(f, 0, 5).put(96, 4, 6)), Status.END_OF_FILE);
        Check.eq("least of none", p.status(Peer.read(f, 0, 0).put(96, 4, 1)), Status.END_OF_FILE);
        Check.eq("least without sign", p.status(Peer.read(f, 0, 5).put(96, 4, -1)), Status.END_OF_FILE);
        p.wire.house.tick(9);
        p.ask(Peer.read(f, 0, 5));
        Check.eq("looked at stays", p.ask(Peer.info(f, 1, 4, 40)).n(80, 8), 0);
    }

    private static void writes() {
        Peer p = Peer.fresh();
        long f = p.open("f");
        long d = p.openDirectory("d");
        long r = p.ask(Peer.create("f", 0x81, 7, 3, 0, 0)).n(128, 8);
        long append = p.ask(Peer.create("f", 0x4, 7, 3, 0, 0)).n(128, 8);
        p.wire.house.tick(4);
        Answer a = p.ask(Peer.write(f, 3, "abc"));
        Check.eq("length", a.length(), 81);
        Check.eq("body", a.n(64, 4), 17);
        Check.eq("how many", a.n(68, 4), 3);
        Check.eq("the rest", a.n(72, 8) | a.n(80, 1), 0);
        Check.eq("0s between", p.ask(Peer.read(f, 0, 6)).n(80, 6), (long) 'a' << 24 | (long) 'b' << 32 | (long) 'c' << 40);
        a = p.ask(Peer.info(f, 1, 4, 40));
        Check.eq("written", a.n(88, 8), 4);
        Check.eq("changed", a.n(96, 8), 4);
        Check.eq("made", a.n(72, 8), 0);
        p.ask(Peer.write(f, 1, "XY"));
        Check.eq("SIZE stays", p.ask(Peer.info(f, 1, 5, 24)).n(80, 8), 6);
        Check.eq("and the others", p.ask(Peer.read(f, 0, 6)).n(80, 6),
                'X' << 8 | 'Y' << 16 | (long) 'a' << 24 | (long) 'b' << 32 | (long) 'c' << 40);
        Check.eq("1025, ahead of FILE", p.status(Peer.write(99, 0, "").put(68, 4, 1025).length(2000)),
                Status.INVALID_PARAMETER);
        Check.eq("a directory", p.status(Peer.write(d, 0, "x")), Status.IS_A_DIRECTORY);
        Check.eq("READ alone", p.status(Peer.write(r, 0, "x")), Status.ACCESS_DENIED);
        Check.eq("APPEND elsewhere", p.status(Peer.write(append, 5, "x")), Status.ACCESS_DENIED);
        Check.eq("APPEND", p.status(Peer.write(append, 6, "x")), Status.OK);
        int records = p.wire.house.told(1);
        Check.eq("none", p.status(Peer.write(f, 100, "")), Status.OK);
        Check.eq("nothing changes", p.ask(Peer.info(f, 1, 5, 24)).n(80, 8), 7);
        Check.eq("no record", p.wire.house.told(1), records);
        Check.eq("up to 4096", p.status(Peer.write(f, 4095, "x")), Status.OK);
        Check.eq("above", p.status(Peer.write(f, 4095, "xy")), Status.DISK_FULL);
        Check.eq("none at 4096", p.status(Peer.write(f, 4096, "")), Status.OK);
        Check.eq("none above", p.status(Peer.write(f, 4097, "")), Status.DISK_FULL);
        Check.eq("far above", p.status(Peer.write(f, -2L, "xyz")), Status.DISK_FULL);
        Check.eq("SIZE", p.ask(Peer.info(f, 1, 5, 24)).n(80, 8), 4096);
    }
}
