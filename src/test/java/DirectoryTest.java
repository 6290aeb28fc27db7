/** Promise 7, part 7: QUERY_DIRECTORY. */
public final class DirectoryTest {
    private static final int ALL = Peer.ALL;

    private DirectoryTest() {
    }

    public static void main(String[] args) {
        entriesOfClass1();
        entriesOfClass12();
        refusals();
        order();
        patterns();
        patternTakenOnce();
        room();
        oneByOne();
        comesAndGoes();
        above();
        Check.end("DirectoryTest");
    }

    /** The NAMES of an answer of class 12, each behind a blank. */
    private static String names(Answer a) {
        if (a.status() != Status.OK) {
            return Integer.toHexString(a.status());
        }
        StringBuilder s = new StringBuilder();
        int at = 72;
        for (int i = 0; i < 100; i++) {
            int units = (int) a.n(at + 8, 4) / 2;
            s.append(i == 0 ? "" : " ").append(a.text(at + 12, units));
            int next = (int) a.n(at, 4);
            if (next == 0) {
                Check.eq("how long", a.n(68, 4), at + 12 + 2 * units - 72);
                Check.eq("length", a.length(), at + 12 + 2 * units);
                return s.toString();
            }
            Check.eq("NEXT", next, (12 + 2 * units + 7) / 8 * 8);
            at += next;
        }
        return s.toString();
    }

    private static void is(String what, Answer a, String due) {
        String got = names(a);
        Check.is(what + ": " + got + " for " + due, got.equals(due));
    }

    private static Peer with(String... files) {
        Peer p = Peer.fresh();
        for (String s : files) {
            p.ask(Peer.close(p.open(s)));
        }
        return p;
    }

    private static void entriesOfClass1() {
        Peer p = Peer.fresh();
        p.wire.house.tick(5);
        long f = p.open("Name");
        p.ask(Peer.write(f, 0, "hello"));
        p.ask(Peer.setValues(f, 11, 12, 13, 14, 3));
        long d = p.openDirectory("");
        Answer a = p.ask(Peer.list(d, 1, 0, "", 1024));
        Check.eq("OK", a.status(), 0);
        Check.eq("body", a.n(64, 4), 9 | 72 << 16);
        Check.eq("how long", a.n(68, 4), 72 + 72 + 72);
        Check.eq("length", a.length(), 72 + 72 + 72 + 72);
        Check.eq("NEXT of .", a.n(72, 4), 72);
        Check.eq("ATTRIBUTES of .", a.n(128, 4), 16);
        Check.eq("name of .", a.n(132, 8), 2 | (long) '.' << 32);
        Check.eq("NEXT of ..", a.n(144, 4), 72);
        Check.eq("name of ..", a.n(204, 8), 4 | (long) '.' << 32 | (long) '.' << 48);
        int at = 72 + 144;
        Check.eq("NEXT of the last", a.n(at, 8), 0);
        for (int i = 0; i < 4; i++) {
            Check.eq("times", a.n(at + 8 + 8 * i, 8), 11 + i);
        }
        Check.eq("SIZE", a.n(at + 40, 8), 5);
        Check.eq("room", a.n(at + 48, 8), 512);
        Check.eq("ATTRIBUTES", a.n(at + 56, 4), 3);
        Check.eq("how long its NAME is", a.n(at + 60, 4), 8);
        Check.is("NAME", a.text(at + 64, 4).equals("Name"));
        Check.eq("no more", p.status(Peer.list(d, 1, 0, "", 1024)), Status.NO_MORE_FILES);
        p.ask(Peer.setValues(f, 0, 0, 0, 0, 128));
        a = p.ask(Peer.list(d, 1, 1, "n*", 1024));
        Check.eq("no ATTRIBUTES", a.n(128, 4), 128);
    }

    private static void entriesOfClass12() {
        Peer p = with("b", "ABC");
        long d = p.openDirectory("");
        Answer a = p.ask(Peer.list(d, 12, 0, "*", 1024));
        is("all", a, ". .. ABC b");
        Check.eq("0", a.n(76, 4), 0);
        is("none any more", p.ask(Peer.list(d, 12, 0, "*", 1024)), "80000006");
        is("anew", p.ask(Peer.list(d, 12, 1, "*", 1024)), ". .. ABC b");
    }

    private static void refusals() {
        Peer p = with("b");
        long d = p.openDirectory("");
        long f = p.open("b");
        long none = p.ask(Peer.create("", 0x1F01FE, 7, 1, 0, 0)).n(128, 8);
        Check.eq("1025", p.status(Peer.list(d, 12, 0, "*", 1025)), Status.INVALID_PARAMETER);
        Check.eq("1025, behind FILE", p.status(Peer.list(99, 12, 0, "*", 1025)), Status.FILE_CLOSED);
        Check.eq("a file", p.status(Peer.list(f, 77, 0, "*", 1024)), Status.INVALID_PARAMETER);
        Check.eq("class 2", p.status(Peer.list(none, 2, 0, "*", 1024)), Status.INVALID_INFO_CLASS);
        Check.eq("without READ", p.status(Peer.list(none, 12, 0, "x".repeat(30), 1024)), Status.ACCESS_DENIED);
        Check.eq("above 40", p.status(Peer.list(d, 12, 0, "x".repeat(21), 1024)), Status.NAME_INVALID);
        Check.eq("odd", p.status(Peer.list(d, 12, 0, "xx", 1024).put(90, 2, 3)), Status.NAME_INVALID);
        Check.eq("not within", p.status(Peer.list(d, 12, 0, "xx", 1024).put(90, 2, 6)), Status.INVALID_PARAMETER);
        Check.eq("still the first time", p.status(Peer.list(d, 12, 0, "x".repeat(20), 1024)), Status.NO_SUCH_FILE);
        Check.eq("not the first time", p.status(Peer.list(d, 12, 0, "b", 1024)), Status.NO_MORE_FILES);
        Check.eq("refused anew", p.status(Peer.list(d, 12, 1, "x".repeat(21), 1024)), Status.NAME_INVALID);
        is("anew", p.ask(Peer.list(d, 12, 1, "b", 1024)), "b");
        Check.eq("not looked at again", p.status(Peer.list(d, 12, 0, "x".repeat(21), 1024)), Status.NO_MORE_FILES);
    }

    private static void order() {
        Peer p = with("b", "A", "ab", "_", "~", " z", "!", "a", "Aa", "B1", "a1");
        // "A" and "a" are the same
        Check.eq("nodes", p.wire.house.told(2), 11);
        is("by names", p.ask(Peer.list(p.openDirectory(""), 12, 0, "", 1024)), ". ..  z ! A a1 Aa ab b B1 _ ~");
    }

    private static void patterns() {
        Peer p = with("a", "ab", "abc", "b.txt", "x.y.z", "abab");
        long d = p.openDirectory("");
        String[][] due = {{"*", ". .. a ab abab abc b.txt x.y.z"}, {"?", ". a"}, {"??", ".. ab"}, {"A*", "a ab abab abc"},
            {"*B", "ab abab"}, {"*b*", "ab abab abc b.txt"}, {"*.*", ". .. b.txt x.y.z"}, {"?.*", ".. b.txt x.y.z"},
            {"a?c", "abc"}, {"*a*b", "ab abab"}, {"**", ". .. a ab abab abc b.txt x.y.z"}, {"x.y.z", "x.y.z"},
            {".", "."}, {"..", ".."}, {"*.?", ".. x.y.z"}, {"?*?*?*?", "abab b.txt x.y.z"}, {"q*", "c000000f"},
            {"a\u0100", "c000000f"}, {"*ab", "ab abab"}};
        for (String[] x : due) {
            is("pattern " + x[0], p.ask(Peer.list(d, 12, 1, x[0], 1024)), x[1]);
        }
    }

    private static void patternTakenOnce() {
        Peer p = with("a", "b");
        long d = p.openDirectory("");
        is("the first", p.ask(Peer.list(d, 12, 2, "a", 1024)), "a");
        is("not taken again", p.ask(Peer.list(d, 12, 2, "b", 1024)), "80000006");
        long e = p.openDirectory("");
        is("each open its own", p.ask(Peer.list(e, 12, 0, "b", 1024)), "b");
        // INFO_LENGTH takes it, too, and stays at the beginning
        long f = p.openDirectory("");
        is("no room", p.ask(Peer.list(f, 12, 0, "b", 13)), "c0000004");
        is("taken", p.ask(Peer.list(f, 12, 0, "*", 14)), "b");
        long g = p.openDirectory("");
        is("none", p.ask(Peer.list(g, 12, 0, "q", 0)), "c000000f");
        p.ask(Peer.close(p.open("q")));
        is("one that came", p.ask(Peer.list(g, 12, 0, "*", 1024)), "q");
    }

    private static void room() {
        Peer p = with("a", "bb", "ccc");
        long d = p.openDirectory("");
        is("just two", p.ask(Peer.list(d, 12, 0, "", 16 + 16)), ". ..");
        is("one and not the next", p.ask(Peer.list(d, 12, 0, "", 16 + 15)), "a");
        is("both, to the byte", p.ask(Peer.list(d, 12, 0, "", 16 + 18)), "bb ccc");
        is("one short of the next", p.ask(Peer.list(d, 12, 1, "?b*", 15)), "c0000004");
        is("class 1 may differ each time", p.ask(Peer.list(d, 12, 0, "", 16)), "bb");
        Check.eq("class 1 needs 66", p.status(Peer.list(d, 1, 1, "a", 65)), Status.INFO_LENGTH);
        Check.eq("class 1 has 66", p.ask(Peer.list(d, 1, 0, "", 66)).length(), 72 + 66);
        is("no room at all", p.ask(Peer.list(d, 12, 1, "", 0)), "c0000004");
    }

    private static void oneByOne() {
        Peer p = with("a", "b");
        long d = p.openDirectory("");
        is("1", p.ask(Peer.list(d, 12, 2, "", 1024)), ".");
        is("2", p.ask(Peer.list(d, 12, 2, "", 1024)), "..");
        is("3", p.ask(Peer.list(d, 12, 2, "", 1024)), "a");
        is("4", p.ask(Peer.list(d, 12, 0xFE, "", 1024)), "b");
        is("5", p.ask(Peer.list(d, 12, 2, "", 1024)), "80000006");
        is("anew, one", p.ask(Peer.list(d, 12, 3, "", 1024)), ".");
    }

    private static void comesAndGoes() {
        Peer p = with("b", "d", "f");
        long d = p.openDirectory("");
        is("b", p.ask(Peer.list(d, 12, 2, "?", 1024)), ".");
        is("b", p.ask(Peer.list(d, 12, 2, "", 1024)), "b");
        long b = p.open("b");
        p.ask(Peer.setToGo(b, 1));
        p.ask(Peer.close(b));
        p.ask(Peer.close(p.open("a")));
        p.ask(Peer.close(p.open("C")));
        is("the next behind b", p.ask(Peer.list(d, 12, 2, "", 1024)), "C");
        long c = p.open("c");
        Check.eq("another name", p.status(Peer.rename(c, 0, "e")), Status.OK);
        p.ask(Peer.close(c));
        is("by its new name, too", p.ask(Peer.list(d, 12, 0, "", 1024)), "d e f");
        long g = p.open("f");
        p.ask(Peer.setToGo(g, 1));
        is("to go is there still", p.ask(Peer.list(d, 12, 1, "f", 1024)), "f");
    }

    private static void above() {
        Peer p = Peer.fresh();
        p.wire.house.tick(1);
        p.openDirectory("d");
        p.wire.house.tick(1);
        long e = p.openDirectory("d\\e");
        Answer a = p.ask(Peer.list(e, 1, 0, "", 1024));
        Check.eq(". is itself", a.n(80, 8), 2);
        Check.eq(".. is the one above", a.n(72 + 72 + 8, 8), 1);
        long root = p.openDirectory("");
        a = p.ask(Peer.list(root, 1, 0, ".*", 1024));
        Check.eq(".. of the root is itself", a.n(72 + 72 + 8, 8), 0);
    }
}
