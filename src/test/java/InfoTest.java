/** Promise 7, part 7: QUERY_INFO and SET_INFO. */
public final class InfoTest {
    private static final int ALL = Peer.ALL;

    private InfoTest() {
    }

    public static void main(String[] args) {
        queries();
        queryRefusals();
        setRefusals();
        values();
        sizes();
        toGo();
        renames();
        renameRefusals();
        takesPlaces();
        directoriesMove();
        Check.end("InfoTest");
    }

    private static void queries() {
        Peer p = Peer.fresh();
        p.wire.house.tick(3);
        long f = p.open("f");
        p.ask(Peer.setValues(f, 11, 12, 13, 14, 6));
        p.ask(Peer.write(f, 600, "x"));
        Answer a = p.ask(Peer.info(f, 1, 4, 40));
        Check.eq("body", a.n(64, 4), 9 | 72 << 16);
        Check.eq("how long", a.n(68, 4), 40);
        Check.eq("length", a.length(), 112);
        Check.eq("made", a.n(72, 8), 11);
        Check.eq("looked at", a.n(80, 8), 12);
        Check.eq("written", a.n(88, 8), 3);
        Check.eq("changed", a.n(96, 8), 3);
        Check.eq("ATTRIBUTES and 0", a.n(104, 8), 6);
        a = p.ask(Peer.info(f, 1, 5, 1000));
        Check.eq("length of 5", a.length(), 96);
        Check.eq("room", a.n(72, 8), 1024);
        Check.eq("SIZE", a.n(80, 8), 601);
        Check.eq("1, not to go, no directory", a.n(88, 8), 1);
        p.ask(Peer.setToGo(f, 1));
        a = p.ask(Peer.info(f, 1, 5, 24));
        Check.eq("0, to go", a.n(88, 8), 1L << 32);
        a = p.ask(Peer.info(f, 1, 18, 80));
        Check.eq("length of 18", a.length(), 152);
        Check.eq("as 4", a.n(72, 8), 11);
        Check.eq("as 4, too", a.n(104, 8), 6);
        Check.eq("as 5", a.n(112, 8), 1024);
        Check.eq("as 5, too", a.n(128, 8), 1L << 32);
        Check.eq("NUMBER", a.n(136, 8), 1);
        Check.eq("0", a.n(144, 4), 0);
        Check.eq("ACCESS", a.n(148, 4), ALL);
        a = p.ask(Peer.info(f, 2, 3, 24));
        Check.eq("how long it is", a.length(), 96);
        Check.eq("80", a.n(72, 8), 80);
        Check.eq("free", a.n(80, 8), 78);
        Check.eq("1", a.n(88, 4), 1);
        Check.eq("512", a.n(92, 4), 512);
        long d = p.openDirectory("d");
        a = p.ask(Peer.info(d, 1, 5, 24));
        Check.eq("a directory", a.n(88, 8), 1 | 1L << 40);
        Check.eq("its SIZE and room", a.n(72, 8) | a.n(80, 8), 0);
    }

    private static void queryRefusals() {
        Peer p = Peer.fresh();
        long f = p.ask(Peer.create("f", 0x1F017F, 7, 3, 0, 0)).n(128, 8);
        int[][] none = {{1, 3}, {1, 0}, {2, 4}, {0, 4}, {3, 3}, {1, 255}, {2, 18}};
        for (int[] x : none) {
            Check.eq("no class", p.status(Peer.info(f, x[0], x[1], 0)), Status.INVALID_INFO_CLASS);
        }
        Check.eq("without LOOK", p.status(Peer.info(f, 1, 4, 0)), Status.ACCESS_DENIED);
        Check.eq("kind 2 needs none", p.status(Peer.info(f, 2, 3, 24)), Status.OK);
        Check.eq("kind 2, less room", p.status(Peer.info(f, 2, 3, 23)), Status.INFO_LENGTH);
        long g = p.ask(Peer.create("f", 0x80, 7, 3, 0, 0)).n(128, 8);
        Check.eq("4", p.status(Peer.info(g, 1, 4, 39)), Status.INFO_LENGTH);
        Check.eq("5", p.status(Peer.info(g, 1, 5, 23)), Status.INFO_LENGTH);
        Check.eq("18", p.status(Peer.info(g, 1, 18, 79)), Status.INFO_LENGTH);
        Check.eq("room without sign", p.status(Peer.info(g, 1, 18, -1)), Status.OK);
    }

    private static void setRefusals() {
        Peer p = Peer.fresh();
        long f = p.ask(Peer.create("f", 0x81, 7, 3, 0, 0)).n(128, 8);
        Check.eq("kind 2", p.status(Peer.setToGo(f, 1).put(66, 1, 2)), Status.INVALID_INFO_CLASS);
        Check.eq("kind 0", p.status(Peer.setToGo(f, 1).put(66, 1, 0)), Status.INVALID_INFO_CLASS);
        int[] none = {0, 5, 18, 255};
        for (int c : none) {
            Check.eq("class " + c, p.status(Peer.set(f, c, new byte[100])), Status.INVALID_INFO_CLASS);
        }
        int[] classes = {4, 20, 13, 10};
        int[] least = {40, 8, 1, 20};
        for (int i = 0; i < 4; i++) {
            Check.eq("how long", p.status(Peer.set(f, classes[i], new byte[least[i] - 1])), Status.INFO_LENGTH);
            Check.eq("ACCESS", p.status(Peer.set(f, classes[i], new byte[least[i]])), Status.ACCESS_DENIED);
        }
        Check.eq("not within", p.status(Peer.setToGo(f, 1).put(68, 4, 2)), Status.INVALID_PARAMETER);
        Check.eq("far out", p.status(Peer.setToGo(f, 1).put(68, 4, -1)), Status.INVALID_PARAMETER);
        Check.eq("FILE", p.status(Peer.set(9, 77, new byte[1])), Status.FILE_CLOSED);
        Check.eq("nothing changed", p.wire.house.told(1), 1);
        long set = p.ask(Peer.create("f", 0x100, 7, 3, 0, 0)).n(128, 8);
        long write = p.ask(Peer.create("f", 0x2, 7, 3, 0, 0)).n(128, 8);
        long append = p.ask(Peer.create("f", 0x4, 7, 3, 0, 0)).n(128, 8);
        long delete = p.ask(Peer.create("f", 0x10000, 7, 3, 0, 0)).n(128, 8);
        Answer a = p.ask(Peer.setValues(set, 1, 0, 0, 0, 0));
        Check.eq("SET", a.status(), 0);
        Check.eq("length", a.length(), 66);
        Check.eq("body", a.n(64, 2), 2);
        Check.eq("APPEND does not set sizes", p.status(Peer.setSize(append, 1)), Status.ACCESS_DENIED);
        Check.eq("WRITE does", p.status(Peer.setSize(write, 1)), Status.OK);
        Check.eq("DELETE", p.status(Peer.setToGo(delete, 0)), Status.OK);
        Check.eq("DELETE renames", p.status(Peer.rename(delete, 0, "g")), Status.OK);
    }

    private static void values() {
        Peer p = Peer.fresh();
        p.wire.house.tick(2);
        long f = p.open("f");
        p.wire.house.tick(2);
        p.ask(Peer.setValues(f, 0, 0, 0, 0, 0));
        Answer a = p.ask(Peer.info(f, 1, 4, 40));
        Check.eq("made stays", a.n(72, 8), 2);
        Check.eq("looked at stays", a.n(80, 8), 2);
        Check.eq("written stays", a.n(88, 8), 2);
        Check.eq("changed is NOW", a.n(96, 8), 4);
        Check.eq("ATTRIBUTES stay", a.n(104, 4), 32);
        Check.eq("two records", p.wire.house.told(1), 2);
        p.ask(Peer.setValues(f, -1L, 7, 1L << 63, 5, -1L));
        a = p.ask(Peer.info(f, 1, 4, 40));
        Check.eq("made", a.n(72, 8), -1L);
        Check.eq("looked at", a.n(80, 8), 7);
        Check.eq("written", a.n(88, 8), 1L << 63);
        Check.eq("changed", a.n(96, 8), 5);
        Check.eq("ATTRIBUTES", a.n(104, 4), 0x27);
        p.ask(Peer.setValues(f, 0, 0, 0, 0, 16));
        Check.eq("16 alone: none", p.ask(Peer.info(f, 1, 4, 40)).n(104, 4), 128);
        long d = p.openDirectory("d");
        p.ask(Peer.setValues(d, 0, 0, 0, 0, 2 | 16));
        Check.eq("of a directory", p.ask(Peer.info(d, 1, 4, 40)).n(104, 4), 18);
        p.ask(Peer.setValues(d, 0, 0, 0, 0, 128));
        Check.eq("none of a directory", p.ask(Peer.info(d, 1, 4, 40)).n(104, 4), 16);
    }

    private static void sizes() {
        Peer p = Peer.fresh();
        long f = p.open("f");
        p.ask(Peer.write(f, 0, "abcdef"));
        p.wire.house.tick(6);
        Check.eq("cut", p.status(Peer.setSize(f, 2)), Status.OK);
        Check.eq("grown", p.status(Peer.setSize(f, 8)), Status.OK);
        Check.eq("what comes is 0", p.ask(Peer.read(f, 0, 8)).n(80, 8), 'a' | 'b' << 8);
        Answer a = p.ask(Peer.info(f, 1, 4, 40));
        Check.eq("written", a.n(88, 8), 6);
        Check.eq("changed", a.n(96, 8), 6);
        Check.eq("4096", p.status(Peer.setSize(f, 4096)), Status.OK);
        Check.eq("4097", p.status(Peer.setSize(f, 4097)), Status.DISK_FULL);
        Check.eq("without sign", p.status(Peer.setSize(f, -1L)), Status.DISK_FULL);
        Check.eq("SIZE stays", p.ask(Peer.info(f, 1, 5, 24)).n(80, 8), 4096);
        Check.eq("a directory", p.status(Peer.setSize(p.openDirectory("d"), 0)), Status.IS_A_DIRECTORY);
        int records = p.wire.house.told(1);
        Check.eq("the same", p.status(Peer.setSize(f, 4096)), Status.OK);
        Check.eq("is a record", p.wire.house.told(1), (records + 1) % 8);
    }

    private static void toGo() {
        Peer p = Peer.fresh();
        long r = p.ask(Peer.create("r", ALL, 7, 3, 0, 0).put(92, 4, 1)).n(128, 8);
        Check.eq("READONLY", p.status(Peer.setToGo(r, 1)), Status.CANNOT_DELETE);
        Check.eq("READONLY, 0", p.status(Peer.setToGo(r, 0)), Status.OK);
        long root = p.openDirectory("");
        Check.eq("the root", p.status(Peer.setToGo(root, 1)), Status.CANNOT_DELETE);
        long d = p.openDirectory("d");
        p.open("d\\x");
        Check.eq("something in it", p.status(Peer.setToGo(d, 1)), Status.NOT_EMPTY);
        long e = p.openDirectory("e");
        Check.eq("empty", p.status(Peer.setToGo(e, 200)), Status.OK);
        int nodes = p.wire.house.told(2);
        p.ask(Peer.close(e));
        Check.eq("it went", p.wire.house.told(2), nodes - 1);
        long f = p.open("f");
        long g = p.open("f");
        p.ask(Peer.setToGo(f, 1));
        p.ask(Peer.close(f));
        Check.eq("g sees it", p.ask(Peer.info(g, 1, 5, 24)).n(92, 1), 1);
        p.ask(Peer.setToGo(g, 0));
        p.ask(Peer.close(g));
        Check.eq("it stays", p.status(Peer.create("f", ALL, 7, 1, 0, 0)), Status.OK);
    }

    private static void renames() {
        Peer p = Peer.fresh();
        long f = p.open("f");
        p.openDirectory("d");
        p.wire.house.tick(8);
        Check.eq("another name", p.status(Peer.rename(f, 0, "G")), Status.OK);
        Answer a = p.ask(Peer.info(f, 1, 4, 40));
        Check.eq("changed", a.n(96, 8), 8);
        Check.eq("written stays", a.n(88, 8), 0);
        Check.eq("the old one", p.status(Peer.create("f", ALL, 7, 1, 0, 0)), Status.NAME_NOT_FOUND);
        Check.eq("the new one", p.status(Peer.create("g", ALL, 7, 1, 0, 0)), Status.OK);
        Check.eq("other letters of itself", p.status(Peer.rename(f, 0, "g")), Status.OK);
        Check.eq("itself", p.status(Peer.rename(f, 1, "g")), Status.OK);
        Check.eq("another place", p.status(Peer.rename(f, 0, "D\\h")), Status.OK);
        Check.eq("there it is", p.status(Peer.create("d\\H", ALL, 7, 1, 0, 0)), Status.OK);
        Check.eq("bytes behind the path", p.status(Peer.rename(f, 0, "abc").put(112, 4, 4)), Status.OK);
        Check.eq("by its length", p.status(Peer.create("AB", ALL, 7, 1, 0, 0)), Status.OK);
    }

    private static void renameRefusals() {
        Peer p = Peer.fresh();
        long f = p.open("f");
        long root = p.openDirectory("");
        long e = p.openDirectory("e");
        Check.eq("not all there", p.status(Peer.rename(f, 0, "abc").put(112, 4, 7)), Status.INFO_LENGTH);
        Check.eq("far from all", p.status(Peer.rename(f, 0, "abc").put(112, 4, -1)), Status.INFO_LENGTH);
        Check.eq("odd", p.status(Peer.rename(f, 0, "abc").put(112, 4, 5)), Status.NAME_INVALID);
        Check.eq("no NAME", p.status(Peer.rename(f, 0, "a*")), Status.NAME_INVALID);
        Check.eq("above 240", p.status(Peer.rename(f, 0, "a\\".repeat(60) + "a")), Status.NAME_INVALID);
        Check.eq("no directory", p.status(Peer.rename(f, 0, "no\\x")), Status.PATH_NOT_FOUND);
        Check.eq("a file on the way", p.status(Peer.rename(f, 0, "f\\x")), Status.PATH_NOT_FOUND);
        Check.eq("to the root", p.status(Peer.rename(f, 1, "")), Status.ACCESS_DENIED);
        Check.eq("the root", p.status(Peer.rename(root, 0, "x")), Status.ACCESS_DENIED);
        Check.eq("the root, PATH_NOT_FOUND first", p.status(Peer.rename(root, 0, "no\\x")), Status.PATH_NOT_FOUND);
        Check.eq("there", p.status(Peer.rename(f, 0, "E")), Status.NAME_COLLISION);
        Check.eq("a directory's place", p.status(Peer.rename(f, 1, "e")), Status.ACCESS_DENIED);
        p.ask(Peer.setToGo(e, 1));
        Check.eq("into one that is to go", p.status(Peer.rename(f, 0, "e\\x")), Status.PATH_NOT_FOUND);
        Check.eq("nothing changed", p.status(Peer.create("f", ALL, 7, 1, 0, 0)), Status.OK);
    }

    private static void takesPlaces() {
        Peer p = Peer.fresh();
        long f = p.open("f");
        p.ask(Peer.write(f, 0, "mine"));
        long g = p.open("g");
        Check.eq("open", p.status(Peer.rename(f, 1, "g")), Status.ACCESS_DENIED);
        p.ask(Peer.setValues(g, 0, 0, 0, 0, 1));
        p.ask(Peer.close(g));
        Check.eq("READONLY", p.status(Peer.rename(f, 1, "g")), Status.ACCESS_DENIED);
        g = p.ask(Peer.create("g", 0x100, 7, 1, 0, 0)).n(128, 8);
        p.ask(Peer.setValues(g, 0, 0, 0, 0, 32));
        p.ask(Peer.close(g));
        Check.eq("without", p.status(Peer.rename(f, 0, "g")), Status.NAME_COLLISION);
        Check.eq("no record", p.wire.house.told(1), 0);
        Check.eq("with", p.status(Peer.rename(f, 0xFF, "g")), Status.OK);
        Check.eq("two records", p.wire.house.told(1), 2);
        Check.eq("nodes", p.wire.house.told(2), 2);
        Check.eq("nodes on the disk", p.wire.house.told(8), 3);
        Check.eq("its bytes", p.ask(Peer.create("g", ALL, 7, 1, 0, 0)).n(112, 8), 4);
    }

    private static void directoriesMove() {
        Peer p = Peer.fresh();
        long d = p.openDirectory("d");
        long e = p.openDirectory("d\\e");
        long x = p.open("d\\e\\x");
        Check.eq("into itself", p.status(Peer.rename(d, 0, "d\\new")), Status.INVALID_PARAMETER);
        Check.eq("below itself", p.status(Peer.rename(d, 0, "d\\e\\new")), Status.INVALID_PARAMETER);
        Check.eq("something is open below", p.status(Peer.rename(d, 0, "new")), Status.ACCESS_DENIED);
        p.ask(Peer.close(e));
        Check.eq("deep below", p.status(Peer.rename(d, 0, "new")), Status.ACCESS_DENIED);
        Check.eq("ahead of what is there", p.status(Peer.rename(d, 0, "D")), Status.ACCESS_DENIED);
        p.ask(Peer.close(x));
        Check.eq("moved", p.status(Peer.rename(d, 0, "new")), Status.OK);
        Check.eq("with what is in it", p.status(Peer.create("new\\e\\x", ALL, 7, 1, 0, 0)), Status.OK);
        Check.eq("not there any more", p.status(Peer.create("d\\e\\x", ALL, 7, 1, 0, 0)), Status.PATH_NOT_FOUND);
        long f = p.open("new\\f");
        Check.eq("a file may be open itself", p.status(Peer.rename(f, 0, "new\\e\\f")), Status.OK);
    }
}
