/** Part 7, QUERY_INFO and SET_INFO: each edge that they name. */
public final class InfoEdgeTest {
    private static final int ALL = Peer.ALL;

    private InfoEdgeTest() {
    }

    public static void main(String[] args) {
        queryClasses();
        queryNeedsLook();
        queryRoom();
        queryOfAll();
        queryOfWhatIsToGo();
        queryOfNodes();
        setClasses();
        setLengths();
        setAccess();
        orderOfSet();
        valuesThatStay();
        valuesThatAreTold();
        changedIsNow();
        attributesOf16();
        sizesAbove4096();
        sizesOfDirectories();
        sizesAndLocks();
        bytesThatComeAre0();
        toGoByAnyByte();
        toGoOfReadonly();
        toGoOfRoots();
        toGoOfDirectories();
        pathsNotAllThere();
        pathsAsOfCreate();
        toTheRoot();
        ofTheRoot();
        ontoItself();
        whatIsThere();
        takingItsPlace();
        intoItself();
        openBelow();
        orderOfRename();
        renamedBySerial();
        Check.end("InfoEdgeTest");
    }

    private static Peer withFile() {
        Peer p = Peer.fresh();
        p.open("f");
        return p;
    }

    /** "Others: INVALID_INFO_CLASS". */
    private static void queryClasses() {
        for (int kind = 0; kind <= 4; kind++) {
            Peer p = withFile();
            for (int c : new int[] {0, 1, 2, 3, 4, 5, 6, 13, 17, 18, 19, 20, 255}) {
                boolean fits = kind == 1 && (c == 4 || c == 5 || c == 18) || kind == 2 && c == 3;
                Check.eq("kind " + kind + " class " + c, p.status(Peer.info(1, kind, c, 1000)),
                        fits ? Status.OK : Status.INVALID_INFO_CLASS);
            }
        }
        Check.eq("kind 255", withFile().status(Peer.info(1, 255, 4, 1000)), Status.INVALID_INFO_CLASS);
    }

    /** "without LOOK (kind 1): ACCESS_DENIED". */
    private static void queryNeedsLook() {
        for (long x : new long[] {1, 0x100, 0x80, 0x1F017F}) {
            Peer p = Peer.fresh();
            p.ask(Peer.create("f", x, 7, 3, 0, 0));
            for (int c : new int[] {4, 5, 18}) {
                Check.eq("ACCESS " + x, p.status(Peer.info(1, 1, c, 80)), x == 0x80 ? Status.OK : Status.ACCESS_DENIED);
            }
            Check.eq("kind 2 " + x, p.status(Peer.info(1, 2, 3, 24)), Status.OK);
            Check.eq("behind the class " + x, p.status(Peer.info(1, 1, 6, 80)), Status.INVALID_INFO_CLASS);
            Check.eq("ahead of room " + x, p.status(Peer.info(1, 1, 4, 0)),
                    x == 0x80 ? Status.INFO_LENGTH : Status.ACCESS_DENIED);
        }
    }

    /** "less room: INFO_LENGTH". */
    private static void queryRoom() {
        int[][] of = {{1, 4, 40}, {1, 5, 24}, {1, 18, 80}, {2, 3, 24}};
        for (int[] x : of) {
            Peer p = withFile();
            Check.eq("0", p.status(Peer.info(1, x[0], x[1], 0)), Status.INFO_LENGTH);
            Check.eq("one less", p.status(Peer.info(1, x[0], x[1], x[2] - 1)), Status.INFO_LENGTH);
            for (int room : new int[] {x[2], x[2] + 1, 0xFFFF, Integer.MAX_VALUE, Integer.MIN_VALUE, -1}) {
                Answer a = p.ask(Peer.info(1, x[0], x[1], room));
                Check.eq("room " + room, a.status(), Status.OK);
                Check.eq("how long", a.n(68, 4), x[2]);
                Check.eq("length", a.length(), 72 + x[2]);
                Check.eq("body", a.n(64, 4), 9 | 72 << 16);
            }
        }
    }

    private static void queryOfAll() {
        Peer p = Peer.fresh();
        p.ask(Peer.create("f", 0x1F01BF, 7, 3, 0, 0));
        p.ask(Peer.setSize(1, 700));
        p.ask(Peer.setValues(1, 11, 12, 13, 14, 4));
        Answer four = p.ask(Peer.info(1, 1, 4, 40));
        Answer five = p.ask(Peer.info(1, 1, 5, 24));
        Answer all = p.ask(Peer.info(1, 1, 18, 80));
        for (int i = 0; i < 5; i++) {
            Check.eq("of 4", four.n(72 + 8 * i, 8), i < 4 ? 11 + i : 4);
            Check.eq("of 4 in 18", all.n(72 + 8 * i, 8), i < 4 ? 11 + i : 4);
        }
        long[] due = {1024, 700, 1};
        for (int i = 0; i < 3; i++) {
            Check.eq("of 5", five.n(72 + 8 * i, 8), due[i]);
            Check.eq("of 5 in 18", all.n(112 + 8 * i, 8), due[i]);
        }
        Check.eq("NUMBER", all.n(136, 8), 1);
        Check.eq("0", all.n(144, 4), 0);
        Check.eq("ACCESS", all.n(148, 4), 0x1F01BF);
    }

    /** "1 or, to go, 0 (4), whether it is to go (1), a DIRECTORY (1), 0 (2)". */
    private static void queryOfWhatIsToGo() {
        Peer p = withFile();
        p.openDirectory("d");
        Check.eq("a file", p.ask(Peer.info(1, 1, 5, 24)).n(88, 8), 1);
        Check.eq("a directory", p.ask(Peer.info(2, 1, 5, 24)).n(88, 8), 1 | 1L << 40);
        p.ask(Peer.setToGo(1, 1));
        p.ask(Peer.setToGo(2, 1));
        Check.eq("a file, to go", p.ask(Peer.info(1, 1, 5, 24)).n(88, 8), 1L << 32);
        Check.eq("a directory, to go", p.ask(Peer.info(2, 1, 5, 24)).n(88, 8), 1L << 32 | 1L << 40);
        Check.eq("in 18", p.ask(Peer.info(2, 1, 18, 80)).n(128, 8), 1L << 32 | 1L << 40);
    }

    /** "kind 2, class 3: 80, how many nodes are free (8 each), 1, 512 (4 each): 24". */
    private static void queryOfNodes() {
        Peer p = withFile();
        Answer a = p.ask(Peer.info(1, 2, 3, 24));
        Check.eq("80", a.n(72, 8), 80);
        Check.eq("free", a.n(80, 8), 78);
        Check.eq("1", a.n(88, 4), 1);
        Check.eq("512", a.n(92, 4), 512);
        p.wire.share(1, "S");
        p.openDirectory("d");
        Check.eq("two less", p.ask(Peer.info(1, 2, 3, 24)).n(80, 8), 76);
        p.ask(Peer.setToGo(2, 1));
        Check.eq("to go is there", p.ask(Peer.info(1, 2, 3, 24)).n(80, 8), 76);
        p.ask(Peer.close(2));
        Check.eq("gone", p.ask(Peer.info(1, 2, 3, 24)).n(80, 8), 77);
    }

    private static byte[] bytes(int many) {
        return new byte[many];
    }

    /** "kind and class (INVALID_INFO_CLASS)". */
    private static void setClasses() {
        Peer p = withFile();
        for (int c : new int[] {0, 1, 3, 5, 9, 11, 12, 14, 18, 19, 21, 64, 255}) {
            Check.eq("class " + c, p.status(Peer.set(1, c, bytes(100))), Status.INVALID_INFO_CLASS);
        }
        for (int kind : new int[] {0, 2, 3, 255}) {
            for (int c : new int[] {4, 10, 13, 20}) {
                Check.eq("kind " + kind, p.status(Peer.set(1, c, bytes(40)).put(66, 1, kind)), Status.INVALID_INFO_CLASS);
            }
        }
        Check.eq("nothing changed", p.wire.house.told(1), 1);
    }

    /** "How long is at least as told." */
    private static void setLengths() {
        int[][] of = {{4, 40}, {20, 8}, {13, 1}, {10, 20}};
        for (int[] x : of) {
            Peer p = withFile();
            for (int many : new int[] {0, 1, x[1] / 2, x[1] - 1}) {
                if (many < x[1]) {
                    Check.eq("class " + x[0] + " of " + many, p.status(Peer.set(1, x[0], bytes(many))), Status.INFO_LENGTH);
                }
            }
            Check.eq("nothing changed", p.wire.house.told(1), 1);
            // a path of no units is the root
            int due = x[0] == 10 ? Status.ACCESS_DENIED : Status.OK;
            Check.eq("class " + x[0] + " of " + x[1], p.status(Peer.set(1, x[0], bytes(x[1]))), due);
            Check.eq("class " + x[0] + ", more", p.status(Peer.set(1, x[0], bytes(x[1] + 30))), due);
        }
    }

    /** "Class 4 (40; SET) .. 20 (8; WRITE) .. 13 (1; DELETE) .. 10 (20 and more; DELETE)". */
    private static void setAccess() {
        int[][] of = {{4, 40, 0x100}, {20, 8, 2}, {13, 1, 0x10000}, {10, 20, 0x10000}};
        long[] access = {1, 2, 4, 8, 0x10, 0x20, 0x40, 0x80, 0x100, 0x10000, 0x20000, 0x40000};
        for (long x : access) {
            Peer p = Peer.fresh();
            p.ask(Peer.create("f", x, 7, 3, 0, 0));
            for (int[] c : of) {
                Req r = c[0] == 10 ? Peer.rename(1, 0, "g") : Peer.set(1, c[0], bytes(c[1]));
                Check.eq("class " + c[0] + " with " + x, p.status(r), x == c[2] ? Status.OK : Status.ACCESS_DENIED);
            }
        }
        for (int[] c : of) {
            Peer p = Peer.fresh();
            p.ask(Peer.create("f", ALL & ~c[2], 7, 3, 0, 0));
            Check.eq("all but it", p.status(Peer.set(1, c[0], bytes(c[1]))), Status.ACCESS_DENIED);
        }
    }

    /** "Looked at: kind and class .., how long .., ACCESS .., then as told." */
    private static void orderOfSet() {
        Peer p = Peer.fresh();
        p.ask(Peer.create("f", 0x80, 7, 3, 0, 0));
        Check.eq("FILE", p.status(Peer.set(9, 99, bytes(0))), Status.FILE_CLOSED);
        Check.eq("the class", p.status(Peer.set(1, 99, bytes(0))), Status.INVALID_INFO_CLASS);
        Check.eq("the kind", p.status(Peer.set(1, 20, bytes(7)).put(66, 1, 2)), Status.INVALID_INFO_CLASS);
        Check.eq("how long", p.status(Peer.set(1, 20, bytes(7))), Status.INFO_LENGTH);
        Check.eq("ACCESS", p.status(Peer.setSize(1, 5000)), Status.ACCESS_DENIED);
        Check.eq("ACCESS of 13", p.status(Peer.setToGo(1, 1)), Status.ACCESS_DENIED);
        Check.eq("ACCESS of 10", p.status(Peer.rename(1, 0, "a*")), Status.ACCESS_DENIED);
        p.ask(Peer.create("f", 2, 7, 3, 0, 0));
        Check.eq("then as told", p.status(Peer.setSize(2, 5000)), Status.DISK_FULL);
    }

    private static void times(String what, Answer a, long... due) {
        for (int i = 0; i < 4; i++) {
            Check.eq(what + " " + i, a.n(72 + 8 * i, 8), due[i]);
        }
    }

    /** "made, looked at, written, changed (0: stays), ATTRIBUTES (0: stays; ..)". */
    private static void valuesThatStay() {
        for (int i = 0; i < 4; i++) {
            Peer p = withFile();
            p.ask(Peer.setValues(1, 11, 12, 13, 14, 2));
            p.wire.house.tick(50);
            long[] told = new long[4];
            told[i] = 99;
            Check.eq("OK", p.status(Peer.setValues(1, told[0], told[1], told[2], told[3], 0)), Status.OK);
            Answer a = p.ask(Peer.info(1, 1, 4, 40));
            long[] due = {11, 12, 13, 50};
            due[i] = 99;
            times("all but " + i, a, due);
            Check.eq("ATTRIBUTES", a.n(104, 4), 2);
        }
    }

    private static void valuesThatAreTold() {
        Peer p = withFile();
        p.ask(Peer.setValues(1, -1L, 1L << 63, 1, Long.MAX_VALUE, 0x27));
        Answer a = p.ask(Peer.info(1, 1, 4, 40));
        times("all 8 bytes", a, -1L, 1L << 63, 1, Long.MAX_VALUE);
        Check.eq("ATTRIBUTES", a.n(104, 4), 0x27);
        Check.eq("one record", p.wire.house.told(1), 2);
        times("in a list", new Answer(java.util.Arrays.copyOfRange(
                p.ask(Peer.list(p.openDirectory(""), 1, 0, "f", 100)).bytes, 8, 120)), -1L, 1L << 63, 1, Long.MAX_VALUE);
        p.ask(Peer.setValues(1, 1L << 56, 3L << 56, 5L << 56, 7L << 56, 0));
        times("by QUERY_INFO", p.ask(Peer.info(1, 1, 18, 80)), 1L << 56, 3L << 56, 5L << 56, 7L << 56);
        times("by CREATE", p.ask(Peer.create("f", 0x80, 7, 1, 0, 0)), 1L << 56, 3L << 56, 5L << 56, 7L << 56);
        times("by CLOSE", p.ask(Peer.close(1).put(66, 2, 1)), 1L << 56, 3L << 56, 5L << 56, 7L << 56);
    }

    /** "changed is NOW, if it is not told". */
    private static void changedIsNow() {
        Peer p = withFile();
        p.wire.house.tick(7);
        p.ask(Peer.setValues(1, 0, 0, 0, 0, 0));
        times("not told", p.ask(Peer.info(1, 1, 4, 40)), 0, 0, 0, 7);
        Check.eq("a record", p.wire.house.told(1), 2);
        p.ask(Peer.setValues(1, 0, 0, 0, 3, 0));
        times("told", p.ask(Peer.info(1, 1, 4, 40)), 0, 0, 0, 3);
    }

    /** "16 is not looked at: 16 alone: none of them". */
    private static void attributesOf16() {
        int[][] of = {{16, 128}, {16 | 2, 2}, {16 | 32, 32}, {8, 128}, {64, 128}, {128, 128}, {0x100, 128}, {0x01000000, 128}, {128 | 1, 1}};
        for (int[] x : of) {
            Peer p = withFile();
            p.ask(Peer.setValues(1, 0, 0, 0, 0, x[0]));
            Check.eq("ATTRIBUTES " + x[0], p.ask(Peer.info(1, 1, 4, 40)).n(104, 4), x[1]);
            p.ask(Peer.setValues(1, 0, 0, 0, 0, 0));
            Check.eq("0: stays " + x[0], p.ask(Peer.info(1, 1, 4, 40)).n(104, 4), x[1]);
        }
    }

    /** "SIZE, above 4096: DISK_FULL". */
    private static void sizesAbove4096() {
        Peer p = withFile();
        Check.eq("4096", p.status(Peer.setSize(1, 4096)), Status.OK);
        for (long size : new long[] {4097, 1L << 31, 1L << 32, 1L << 63, -1L, Long.MAX_VALUE, 1L << 32 | 5}) {
            Check.eq("SIZE " + size, p.status(Peer.setSize(1, size)), Status.DISK_FULL);
        }
        Check.eq("it stays", p.ask(Peer.info(1, 1, 5, 24)).n(80, 8), 4096);
        Check.eq("two records", p.wire.house.told(1), 2);
        Check.eq("0", p.status(Peer.setSize(1, 0)), Status.OK);
    }

    /** "(a DIRECTORY: IS_A_DIRECTORY; ..". */
    private static void sizesOfDirectories() {
        Peer p = Peer.fresh();
        p.openDirectory("d");
        Check.eq("0", p.status(Peer.setSize(1, 0)), Status.IS_A_DIRECTORY);
        Check.eq("4096", p.status(Peer.setSize(1, 4096)), Status.IS_A_DIRECTORY);
        Check.eq("no record", p.wire.house.told(1), 1);
    }

    /** "a lock of others that MEETS what is between both: LOCK_CONFLICT". */
    private static void sizesAndLocks() {
        Peer p = withFile();
        p.open("f");
        p.ask(Peer.setSize(1, 100));
        p.ask(Peer.lock(1, 50, 10, 1));
        Check.eq("SHARED, its last byte", p.status(Peer.setSize(2, 59)), Status.LOCK_CONFLICT);
        Check.eq("all of it", p.status(Peer.setSize(2, 0)), Status.LOCK_CONFLICT);
        Check.eq("just behind it", p.status(Peer.setSize(2, 60)), Status.OK);
        Check.eq("the same SIZE", p.status(Peer.setSize(2, 60)), Status.OK);
        Check.eq("its own", p.status(Peer.setSize(1, 20)), Status.OK);
        Check.eq("growing to its first byte", p.status(Peer.setSize(2, 51)), Status.LOCK_CONFLICT);
        Check.eq("growing over it", p.status(Peer.setSize(2, 4096)), Status.LOCK_CONFLICT);
        Check.eq("growing up to it", p.status(Peer.setSize(2, 50)), Status.OK);
        p.ask(Peer.lock(1, 50, 10, 4));
        p.ask(Peer.lock(1, 49, 1, 2));
        Check.eq("EXCLUSIVE", p.status(Peer.setSize(2, 49)), Status.LOCK_CONFLICT);
        p.ask(Peer.lock(1, 49, 1, 4));
        p.ask(Peer.lock(1, 49, 0, 2));
        Check.eq("of no bytes", p.status(Peer.setSize(2, 0)), Status.OK);
    }

    /** "bytes that come are 0; written, changed NOW". */
    private static void bytesThatComeAre0() {
        Peer p = withFile();
        p.ask(Peer.write(1, 0, "abcdefgh"));
        p.wire.house.tick(5);
        p.ask(Peer.setSize(1, 3));
        Check.eq("cut", p.status(Peer.read(1, 3, 1)), Status.END_OF_FILE);
        p.ask(Peer.setSize(1, 8));
        Check.eq("0s", p.ask(Peer.read(1, 0, 8)).n(80, 8), 'a' | 'b' << 8 | 'c' << 16);
        times("times", p.ask(Peer.info(1, 1, 4, 40)), 0, 0, 5, 5);
    }

    /** "0, others: whether it is to go". */
    private static void toGoByAnyByte() {
        for (int b : new int[] {1, 2, 16, 127, 128, 255}) {
            Peer p = withFile();
            Check.eq("byte " + b, p.status(Peer.setToGo(1, b)), Status.OK);
            Check.eq("to go " + b, p.ask(Peer.info(1, 1, 5, 24)).n(92, 1), 1);
            p.ask(Peer.setToGo(1, 0));
            Check.eq("not to go " + b, p.ask(Peer.info(1, 1, 5, 24)).n(92, 1), 0);
        }
        Peer p = withFile();
        p.ask(Peer.set(1, 13, new byte[] {0, 1, 1, 1}));
        Check.eq("one byte alone", p.ask(Peer.info(1, 1, 5, 24)).n(92, 1), 0);
        Check.eq("no record", p.wire.house.told(1), 1);
    }

    /** "if so: READONLY, a root: CANNOT_DELETE". */
    private static void toGoOfReadonly() {
        Peer p = withFile();
        p.ask(Peer.setValues(1, 0, 0, 0, 0, 1));
        Check.eq("to go", p.status(Peer.setToGo(1, 1)), Status.CANNOT_DELETE);
        Check.eq("it is not", p.ask(Peer.info(1, 1, 5, 24)).n(92, 1), 0);
        Check.eq("not to go", p.status(Peer.setToGo(1, 0)), Status.OK);
        p.ask(Peer.setValues(1, 0, 0, 0, 0, 2));
        Check.eq("not READONLY", p.status(Peer.setToGo(1, 1)), Status.OK);
        p.ask(Peer.setValues(1, 0, 0, 0, 0, 1));
        Check.eq("READONLY then", p.status(Peer.setToGo(1, 1)), Status.CANNOT_DELETE);
        Check.eq("it is to go still", p.ask(Peer.info(1, 1, 5, 24)).n(92, 1), 1);
    }

    private static void toGoOfRoots() {
        Peer p = Peer.fresh();
        p.openDirectory("");
        Check.eq("an empty root", p.status(Peer.setToGo(1, 1)), Status.CANNOT_DELETE);
        Check.eq("not to go", p.status(Peer.setToGo(1, 0)), Status.OK);
        p.open("f");
        Check.eq("ahead of NOT_EMPTY", p.status(Peer.setToGo(1, 1)), Status.CANNOT_DELETE);
    }

    /** "a DIRECTORY with something in it: NOT_EMPTY". */
    private static void toGoOfDirectories() {
        Peer p = Peer.fresh();
        p.openDirectory("d");
        p.open("d\\x");
        Check.eq("something in it", p.status(Peer.setToGo(1, 1)), Status.NOT_EMPTY);
        Check.eq("not to go", p.status(Peer.setToGo(1, 0)), Status.OK);
        p.ask(Peer.setValues(1, 0, 0, 0, 0, 1));
        Check.eq("READONLY is ahead", p.status(Peer.setToGo(1, 1)), Status.CANNOT_DELETE);
        p.ask(Peer.setValues(1, 0, 0, 0, 0, 2));
        p.ask(Peer.setToGo(2, 1));
        Check.eq("to go is there still", p.status(Peer.setToGo(1, 1)), Status.NOT_EMPTY);
        p.ask(Peer.close(2));
        Check.eq("empty", p.status(Peer.setToGo(1, 1)), Status.OK);
        p.ask(Peer.close(1));
        Check.eq("gone", p.wire.house.told(2), 1);
    }

    /** "(4) how long (not all there: INFO_LENGTH)". */
    private static void pathsNotAllThere() {
        Peer p = withFile();
        Check.eq("two more", p.status(Peer.rename(1, 0, "abc").put(112, 4, 8)), Status.INFO_LENGTH);
        Check.eq("one more", p.status(Peer.rename(1, 0, "abc").put(112, 4, 7)), Status.INFO_LENGTH);
        Check.eq("without sign", p.status(Peer.rename(1, 0, "abc").put(112, 4, 0x80000000L)), Status.INFO_LENGTH);
        Check.eq("the most", p.status(Peer.rename(1, 0, "abc").put(112, 4, 0xFFFFFFFFL)), Status.INFO_LENGTH);
        Check.eq("that wraps around", p.status(Peer.rename(1, 0, "abc").put(112, 4, 0xFFFFFFF0L)), Status.INFO_LENGTH);
        Check.eq("by how long it is, not by the REQUEST", p.status(Peer.rename(1, 0, "abc").put(68, 4, 24)),
                Status.INFO_LENGTH);
        Check.eq("no record", p.wire.house.told(1), 1);
        Check.eq("just there", p.status(Peer.rename(1, 0, "abc").put(68, 4, 24).put(112, 4, 4)), Status.OK);
        Check.eq("its name", p.status(Peer.create("AB", ALL, 7, 1, 0, 0)), Status.OK);
    }

    /** "a path as of CREATE (of the same share)". */
    private static void pathsAsOfCreate() {
        Peer p = withFile();
        Check.eq("odd", p.status(Peer.rename(1, 0, "abc").put(112, 4, 3)), Status.NAME_INVALID);
        Check.eq("242", p.status(Peer.rename(1, 0, "a\\".repeat(60) + "a")), Status.NAME_INVALID);
        Check.eq("240", p.status(Peer.rename(1, 0, "a\\".repeat(59) + "aa")), Status.PATH_NOT_FOUND);
        for (String s : new String[] {"a*", ".", "..", "a\\", "\\a", "1234567890123", "a\\\\b"}) {
            Check.eq("no path " + s, p.status(Peer.rename(1, 0, s)), Status.NAME_INVALID);
        }
        Check.eq("no directory", p.status(Peer.rename(1, 0, "no\\x")), Status.PATH_NOT_FOUND);
        Check.eq("a file on the way", p.status(Peer.rename(1, 0, "F\\x")), Status.PATH_NOT_FOUND);
        Check.eq("no record", p.wire.house.told(1), 1);
        Check.eq("12", p.status(Peer.rename(1, 0, "123456789012")), Status.OK);
        p.wire.share(1, "S");
        p.openDirectory("d");
        p.connectTree("S");
        p.open("f");
        Check.eq("a directory of another share", p.status(Peer.rename(3, 0, "d\\x")), Status.PATH_NOT_FOUND);
        Check.eq("a name of another share", p.status(Peer.rename(3, 0, "123456789012")), Status.OK);
    }

    /** "the root, or itself a root: ACCESS_DENIED". */
    private static void toTheRoot() {
        Peer p = withFile();
        Check.eq("the root", p.status(Peer.rename(1, 0, "")), Status.ACCESS_DENIED);
        Check.eq("taking its place", p.status(Peer.rename(1, 1, "")), Status.ACCESS_DENIED);
        Check.eq("no record", p.wire.house.told(1), 1);
    }

    private static void ofTheRoot() {
        Peer p = Peer.fresh();
        p.openDirectory("");
        p.openDirectory("d");
        Check.eq("a name", p.status(Peer.rename(1, 0, "x")), Status.ACCESS_DENIED);
        Check.eq("below itself", p.status(Peer.rename(1, 0, "d\\x")), Status.ACCESS_DENIED);
        Check.eq("to itself", p.status(Peer.rename(1, 0, "")), Status.ACCESS_DENIED);
        Check.eq("what is there", p.status(Peer.rename(1, 0, "d")), Status.ACCESS_DENIED);
    }

    /** "what is there (not itself)". */
    private static void ontoItself() {
        Peer p = withFile();
        p.wire.house.tick(3);
        Check.eq("the same name", p.status(Peer.rename(1, 0, "f")), Status.OK);
        times("changed NOW", p.ask(Peer.info(1, 1, 4, 40)), 0, 0, 0, 3);
        Check.eq("a record", p.wire.house.told(1), 2);
        Check.eq("taking its own place", p.status(Peer.rename(1, 1, "F")), Status.OK);
        Check.eq("its letters are new", p.ask(Peer.list(p.openDirectory(""), 12, 0, "f", 100)).n(84, 2), 'F');
        p.openDirectory("d");
        Check.eq("a directory", p.status(Peer.rename(3, 1, "D")), Status.OK);
        Check.eq("nodes", p.wire.house.told(2), 3);
    }

    /** "NAME_COLLISION without, ACCESS_DENIED with taking its place if that is a DIRECTORY, open, or READONLY". */
    private static void whatIsThere() {
        Peer p = withFile();
        p.ask(Peer.create("dir", ALL, 7, 3, 1, 0));
        p.ask(Peer.create("ro", ALL, 7, 3, 0, 0).put(92, 4, 1));
        p.open("plain");
        p.open("open");
        p.ask(Peer.close(2));
        p.ask(Peer.close(3));
        p.ask(Peer.close(4));
        for (String s : new String[] {"dir", "ro", "plain", "open"}) {
            Check.eq("without " + s, p.status(Peer.rename(1, 0, s)), Status.NAME_COLLISION);
        }
        for (String s : new String[] {"dir", "ro", "open"}) {
            Check.eq("with " + s, p.status(Peer.rename(1, 1, s)), Status.ACCESS_DENIED);
        }
        Check.eq("nothing changed", p.wire.house.told(2), 6);
        Check.eq("no record", p.wire.house.told(1), 0);
        Check.eq("with plain", p.status(Peer.rename(1, 1, "plain")), Status.OK);
        Check.eq("one went", p.wire.house.told(2), 5);
    }

    /** "else it goes". */
    private static void takingItsPlace() {
        for (int with : new int[] {1, 2, 128, 255}) {
            Peer p = withFile();
            p.ask(Peer.write(1, 0, "mine"));
            p.open("g");
            p.ask(Peer.close(2));
            p.wire.house.tick(4);
            Check.eq("with " + with, p.status(Peer.rename(1, with, "G")), Status.OK);
            Check.eq("two records", p.wire.house.told(1), 2);
            Check.eq("nodes", p.wire.house.told(2), 2);
            Check.eq("on the disk", p.wire.house.told(8), 3);
            Check.eq("its bytes", p.ask(Peer.create("g", 1, 7, 1, 0, 0)).n(112, 8), 4);
            times("changed NOW", p.ask(Peer.info(1, 1, 4, 40)), 0, 0, 0, 4);
            Check.eq("its NUMBER stays", p.ask(Peer.info(1, 1, 18, 80)).n(136, 8), 1);
        }
    }

    /** "into itself or below: INVALID_PARAMETER". */
    private static void intoItself() {
        Peer p = Peer.fresh();
        p.openDirectory("d");
        p.ask(Peer.close(p.openDirectory("d\\e")));
        p.ask(Peer.close(p.openDirectory("dd")));
        Check.eq("into itself", p.status(Peer.rename(1, 0, "d\\x")), Status.INVALID_PARAMETER);
        Check.eq("below itself", p.status(Peer.rename(1, 0, "D\\E\\x")), Status.INVALID_PARAMETER);
        Check.eq("what is there", p.status(Peer.rename(1, 1, "d\\e")), Status.INVALID_PARAMETER);
        Check.eq("beside itself", p.status(Peer.rename(1, 0, "dd\\x")), Status.OK);
        Check.eq("there it is", p.status(Peer.create("dd\\x\\e", ALL, 7, 1, 1, 0)), Status.OK);
    }

    /** "a DIRECTORY below which something is open: ACCESS_DENIED". */
    private static void openBelow() {
        Peer p = Peer.fresh();
        p.openDirectory("d");
        p.openDirectory("d\\e");
        p.open("d\\e\\x");
        Check.eq("just below", p.status(Peer.rename(1, 0, "n")), Status.ACCESS_DENIED);
        p.ask(Peer.close(2));
        Check.eq("further below", p.status(Peer.rename(1, 0, "n")), Status.ACCESS_DENIED);
        Check.eq("to itself, too", p.status(Peer.rename(1, 0, "D")), Status.ACCESS_DENIED);
        Check.eq("a file that is open itself", p.status(Peer.rename(3, 0, "d\\y")), Status.OK);
        p.openDirectory("");
        p.openDirectory("d");
        p.ask(Peer.close(3));
        Check.eq("open itself, and the one above", p.status(Peer.rename(1, 0, "n")), Status.OK);
        // the eldest open of all is the one below
        Peer q = Peer.fresh();
        q.openDirectory("d");
        q.ask(Peer.close(1));
        q.wire.house.crash(0);
        q = Peer.on(q.wire, 0);
        q.open("d\\x");
        q.openDirectory("d");
        Check.eq("the eldest open", q.status(Peer.rename(2, 0, "n")), Status.ACCESS_DENIED);
        q.ask(Peer.close(1));
        Check.eq("none any more", q.status(Peer.rename(2, 0, "n")), Status.OK);
    }

    /** "(in this order: its path, PATH_NOT_FOUND, roots, below itself, what is open below, what is there)". */
    private static void orderOfRename() {
        Peer p = Peer.fresh();
        p.openDirectory("");
        p.openDirectory("d");
        p.open("d\\x");
        p.open("g");
        Check.eq("its path, ahead of PATH_NOT_FOUND", p.status(Peer.rename(1, 0, "no\\*")), Status.NAME_INVALID);
        Check.eq("PATH_NOT_FOUND, ahead of roots", p.status(Peer.rename(1, 0, "no\\x")), Status.PATH_NOT_FOUND);
        Check.eq("roots, ahead of below itself", p.status(Peer.rename(1, 0, "d\\y")), Status.ACCESS_DENIED);
        Check.eq("below itself, ahead of open below", p.status(Peer.rename(2, 0, "d\\y")), Status.INVALID_PARAMETER);
        Check.eq("below itself, ahead of what is there", p.status(Peer.rename(2, 0, "d\\x")), Status.INVALID_PARAMETER);
        Check.eq("open below, ahead of what is there", p.status(Peer.rename(2, 0, "g")), Status.ACCESS_DENIED);
        p.ask(Peer.close(3));
        Check.eq("what is there", p.status(Peer.rename(2, 0, "g")), Status.NAME_COLLISION);
    }

    /** An open stays with its node, wherever that goes. */
    private static void renamedBySerial() {
        Peer p = withFile();
        p.openDirectory("d");
        p.ask(Peer.write(1, 0, "abc"));
        p.ask(Peer.rename(1, 0, "d\\g"));
        Check.eq("read", p.ask(Peer.read(1, 0, 3)).n(80, 3), 'a' | 'b' << 8 | 'c' << 16);
        Check.eq("not where it was", p.status(Peer.create("f", ALL, 7, 1, 0, 0)), Status.NAME_NOT_FOUND);
        Check.eq("the directory has something", p.status(Peer.setToGo(2, 1)), Status.NOT_EMPTY);
        p.ask(Peer.rename(1, 0, "f"));
        Check.eq("and nothing", p.status(Peer.setToGo(2, 1)), Status.OK);
        Check.eq("not into what is to go", p.status(Peer.rename(1, 0, "d\\g")), Status.PATH_NOT_FOUND);
    }
}
