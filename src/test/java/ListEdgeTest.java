/** Part 7, QUERY_DIRECTORY: each edge that it names. */
public final class ListEdgeTest {
    private static final int ALL = Peer.ALL;

    private ListEdgeTest() {
    }

    public static void main(String[] args) {
        classes();
        roomAbove1024();
        noDirectory();
        needsRead();
        orderOfLooking();
        emptyPattern();
        oddPatterns();
        patternsAbove40();
        firstTimeStill();
        neverAgain();
        anewFromTheBeginning();
        anewThatIsRefused();
        dotsAreListed();
        dotsByPatterns();
        namesInOrder();
        stars();
        questionMarks();
        asManyAsRoomHas();
        oneAlone();
        roomOfTheNextOne();
        infoLengthStaysThere();
        noneMatches();
        noneAnyMore();
        whatComes();
        whatGoes();
        namesBehindTheLast();
        entriesAreFilled();
        unitsOf2Bytes();
        longestNames();
        namesThatWereLonger();
        namesWithoutTheirPath();
        Check.end("ListEdgeTest");
    }

    private static Peer with(String... files) {
        Peer p = Peer.fresh();
        p.openDirectory("");
        for (String s : files) {
            p.ask(Peer.shortCreate(s, ALL, 7, 2, 0, 0));
        }
        return p;
    }

    /** The NAMES told, each but the first behind a bar; or the status. */
    private static String names(Answer a) {
        if (a.status() != Status.OK) {
            return Integer.toHexString(a.status());
        }
        StringBuilder s = new StringBuilder();
        int at = 72;
        int next = 1;
        for (int i = 0; i < 100 && next != 0; i++) {
            next = (int) a.n(at, 4);
            s.append(i == 0 ? "" : "|").append(a.text(at + 12, (int) a.n(at + 8, 4) / 2));
            at += next;
        }
        return s.toString();
    }

    private static void is(String what, Answer a, String due) {
        String got = names(a);
        Check.is(what + ": " + got + " for " + due, got.equals(due));
    }

    private static Answer list(Peer p, int flags, String pattern, int room) {
        return p.ask(Peer.list(1, 12, flags, pattern, room));
    }

    private static final String NO_MORE = "80000006";
    private static final String NO_SUCH = "c000000f";
    private static final String NO_ROOM = "c0000004";

    /** "no such class: INVALID_INFO_CLASS". */
    private static void classes() {
        Peer p = with();
        int[] none = {0, 2, 3, 11, 13, 37, 128, 255};
        for (int c : none) {
            Check.eq("class " + c, p.status(Peer.list(1, c, 1, "", 1024)), Status.INVALID_INFO_CLASS);
        }
        Check.eq("class 1", p.status(Peer.list(1, 1, 1, "", 1024)), Status.OK);
        Check.eq("class 12", p.status(Peer.list(1, 12, 1, "", 1024)), Status.OK);
    }

    /** "92 (4) room (above 1024: INVALID_PARAMETER, behind FILE)". */
    private static void roomAbove1024() {
        Peer p = with();
        Check.eq("1024", p.status(Peer.list(1, 12, 1, "", 1024)), Status.OK);
        Check.eq("1025", p.status(Peer.list(1, 12, 1, "", 1025)), Status.INVALID_PARAMETER);
        Check.eq("without sign", p.status(Peer.list(1, 12, 1, "", 0x80000000)), Status.INVALID_PARAMETER);
        Check.eq("the most", p.status(Peer.list(1, 12, 1, "", -1)), Status.INVALID_PARAMETER);
        Check.eq("behind FILE", p.status(Peer.list(9, 12, 1, "", 1025)), Status.FILE_CLOSED);
    }

    /** "No DIRECTORY: INVALID_PARAMETER". */
    private static void noDirectory() {
        Peer p = with("f");
        Check.eq("a file", p.status(Peer.list(2, 12, 0, "", 1024)), Status.INVALID_PARAMETER);
        Check.eq("ahead of the class", p.status(Peer.list(2, 99, 0, "", 1024)), Status.INVALID_PARAMETER);
    }

    /** "without READ: ACCESS_DENIED". */
    private static void needsRead() {
        long[] access = {1, 2, 0x20, 0x80, 0x1F01FE};
        for (long x : access) {
            Peer p = Peer.fresh();
            p.ask(Peer.create("", x, 7, 1, 0, 0));
            Check.eq("ACCESS " + x, p.status(Peer.list(1, 12, 0, "", 1024)), x == 1 ? Status.OK : Status.ACCESS_DENIED);
        }
    }

    private static void orderOfLooking() {
        Peer p = Peer.fresh();
        p.ask(Peer.create("", 0x80, 7, 1, 0, 0));
        Req r = Peer.list(9, 99, 0, "x".repeat(21), 1025);
        Check.eq("FILE", p.status(r.copy()), Status.FILE_CLOSED);
        r.file(72, 1);
        Check.eq("room", p.status(r.copy()), Status.INVALID_PARAMETER);
        r.put(92, 4, 1024);
        Check.eq("the class", p.status(r.copy()), Status.INVALID_INFO_CLASS);
        r.put(66, 1, 12);
        Check.eq("READ", p.status(r.copy()), Status.ACCESS_DENIED);
        p.ask(Peer.create("", 1, 7, 1, 0, 0));
        r.file(72, 2);
        Check.eq("the pattern", p.status(r.copy()), Status.NAME_INVALID);
        r.put(90, 2, 40).put(92, 4, 0);
        Check.eq("none matches, ahead of no room", p.status(r.copy()), Status.NO_SUCH_FILE);
    }

    /** "(0 long: "*"; ..)". */
    private static void emptyPattern() {
        is("0 long", list(with("a", "b.c"), 0, "", 1024), ".|..|a|b.c");
        is("*", list(with("a", "b.c"), 0, "*", 1024), ".|..|a|b.c");
    }

    /** "odd .. NAME_INVALID". */
    private static void oddPatterns() {
        Peer p = with("a");
        for (int bytes : new int[] {1, 3, 39, 41}) {
            Check.eq("of " + bytes, p.status(Peer.list(1, 12, 0, "*".repeat(21), 1024).put(90, 2, bytes)),
                    Status.NAME_INVALID);
        }
        is("even", list(p, 0, "a", 1024), "a");
    }

    /** "above 40: NAME_INVALID". */
    private static void patternsAbove40() {
        Peer p = with("a");
        is("42", list(p, 0, "*".repeat(21), 1024), "c0000033");
        is("far above", list(p, 0, "*".repeat(900), 1024), "c0000033");
        is("40", list(p, 0, "*".repeat(20), 1024), ".|..|a");
        is("40 of ?", list(p, 1, "?".repeat(20), 1024), NO_SUCH);
    }

    /** "NAME_INVALID: it is the first time still". */
    private static void firstTimeStill() {
        Peer p = with("a", "b");
        is("refused", list(p, 0, "x".repeat(21), 1024), "c0000033");
        is("refused again", p.ask(Peer.list(1, 12, 0, "ab", 1024).put(90, 2, 3)), "c0000033");
        is("the first time", list(p, 0, "b", 1024), "b");
        is("none any more", list(p, 0, "a", 1024), NO_MORE);
        Peer q = with("a", "b");
        Check.eq("room", q.status(Peer.list(1, 12, 0, "a", 1025)), Status.INVALID_PARAMETER);
        Check.eq("class", q.status(Peer.list(1, 13, 0, "a", 1024)), Status.INVALID_INFO_CLASS);
        is("what is refused changes nothing", list(q, 0, "b", 1024), "b");
    }

    /** "else never again, whatever is answered". */
    private static void neverAgain() {
        Peer p = with("a", "b");
        is("none matches", list(p, 0, "q", 1024), NO_SUCH);
        is("taken all the same", list(p, 0, "*", 1024), NO_MORE);
        Peer q = with("a", "b");
        is("no room", list(q, 0, "b", 0), NO_ROOM);
        is("taken as well", list(q, 0, "a", 1024), "b");
        is("not looked at any more", list(q, 0, "x".repeat(21), 1024), NO_MORE);
    }

    /** "or ANEW, the pattern is taken .. from the beginning". */
    private static void anewFromTheBeginning() {
        Peer p = with("a", "b");
        is("ANEW the first time", list(p, 1, "?", 1024), ".|a|b");
        is("ANEW", list(p, 1, "b", 1024), "b");
        is("ANEW, 0 long", list(p, 1, "", 1024), ".|..|a|b");
        is("ANEW, none", list(p, 1, "q", 1024), NO_SUCH);
        is("not ANEW", list(p, 0, "", 1024), NO_MORE);
        is("ANEW and other FLAGS", list(p, 0xFD, "a", 1024), "a");
        is("other FLAGS alone", list(p, 0xFC, "", 1024), NO_MORE);
    }

    private static void anewThatIsRefused() {
        Peer p = with("a", "b");
        is("one", list(p, 2, "?", 1024), ".");
        is("refused", list(p, 1, "x".repeat(21), 1024), "c0000033");
        is("it goes on where it was", list(p, 2, "", 1024), "a");
        is("with its pattern", list(p, 0, "", 1024), "b");
    }

    /** "".", ".." (as the DIRECTORY itself, and the one above, or itself)". */
    private static void dotsAreListed() {
        Peer p = Peer.fresh();
        p.wire.house.tick(1);
        p.openDirectory("d");
        p.wire.house.tick(1);
        p.openDirectory("d\\e");
        p.ask(Peer.setValues(1, 0, 0, 0, 0, 2));
        Answer a = p.ask(Peer.list(2, 1, 0, "", 1024));
        Check.eq(". made", a.n(80, 8), 2);
        Check.eq(". ATTRIBUTES", a.n(128, 4), 16);
        Check.eq(". how long", a.n(132, 4), 2);
        Check.eq(".. made", a.n(152, 8), 1);
        Check.eq(".. ATTRIBUTES", a.n(200, 4), 18);
        Check.eq(".. how long", a.n(204, 4), 4);
        Check.eq("both alone", a.n(68, 4), 140);
        p.openDirectory("");
        a = p.ask(Peer.list(3, 1, 0, "..", 1024));
        Check.eq(".. of the root is itself", a.n(80, 8), 0);
        Check.eq("its NAME is told ..", a.n(136, 4), '.' | '.' << 16);
    }

    private static void dotsByPatterns() {
        String[][] due = {{".", "."}, {"..", ".."}, {"?", "."}, {"??", "..|.x"}, {".*", ".|..|.x"}, {"*.", ".|.."}, {"...", NO_SUCH},
            {"*.*", ".|..|.x"}, {".?", "..|.x"}, {"x*", NO_SUCH}};
        for (String[] x : due) {
            is("pattern " + x[0], list(with(".x"), 0, x[0], 1024), x[1]);
        }
    }

    /** "by NAMES (unit by unit, as compared; the shorter one first)". */
    private static void namesInOrder() {
        is("letters", list(with("b", "A", "C", "a1", "a", "B1", "aB", "Aa"), 0, "*", 1024), ".|..|A|a1|Aa|aB|b|B1|C");
        is("others", list(with("~", "_", "z", "Z1", "0", " a", "a b", "a", "`", "["), 0, "*", 1024),
                ".|..| a|0|a|a b|z|Z1|[|_|`|~");
    }

    /** "a * is any row of units". */
    private static void stars() {
        String[][] due = {{"*", ".|..|a|ab|aXb|b"}, {"**", ".|..|a|ab|aXb|b"}, {"a*", "a|ab|aXb"}, {"*b", "ab|aXb|b"},
            {"a*b", "ab|aXb"}, {"*a*", "a|ab|aXb"}, {"*a*b*", "ab|aXb"}, {"a*b*c", NO_SUCH}, {"*x*", "aXb"}, {"a**b", "ab|aXb"},
            {"*ab", "ab"}, {"ab*", "ab"}};
        for (String[] x : due) {
            is("pattern " + x[0], list(with("a", "ab", "aXb", "b"), 0, x[0], 1024), x[1]);
        }
    }

    /** "a ? one". */
    private static void questionMarks() {
        String[][] due = {{"?", ".|a|b"}, {"??", "..|ab"}, {"???", "abc"}, {"????", NO_SUCH}, {"a?", "ab"}, {"?b", "ab"},
            {"?b?", "abc"}, {"a??", "abc"}, {"*?", ".|..|a|ab|abc|b"}, {"?*?", "..|ab|abc"}, {"?*c", "abc"}, {"a?*?", "abc"}};
        for (String[] x : due) {
            is("pattern " + x[0], list(with("a", "ab", "abc", "b"), 0, x[0], 1024), x[1]);
        }
    }

    /** "Each time as many ENTRIES as room has". */
    private static void asManyAsRoomHas() {
        Peer p = with("a", "bb", "ccc", "dddd");
        // . 14 (16), .. 16, a 14 (16), bb 16, ccc 18 (24), dddd 20
        is("14 is one", list(p, 1, "", 14), ".");
        is("15 is one", list(p, 1, "", 15), ".");
        is("29 is one", list(p, 1, "", 29), ".");
        is("31 is one", list(p, 1, "", 31), ".");
        is("32 is two", list(p, 1, "", 32), ".|..");
        is("45 is two", list(p, 1, "", 45), ".|..");
        is("46 is three", list(p, 1, "", 46), ".|..|a");
        is("the rest", list(p, 0, "", 60), "bb|ccc|dddd");
        is("none any more", list(p, 0, "", 60), NO_MORE);
        is("two at a time", list(p, 1, "?*?", 34), "..|bb");
        is("and one, as the next has no room", list(p, 0, "", 43), "ccc");
        is("and the last", list(p, 0, "", 20), "dddd");
    }

    /** "(or one)". */
    private static void oneAlone() {
        Peer p = with("a", "b");
        is("the first", list(p, 2, "?", 1024), ".");
        is("the next", list(p, 2, "", 1024), "a");
        is("not ONE", list(p, 0, "", 1024), "b");
        is("ONE, none", list(p, 2, "", 1024), NO_MORE);
        is("ONE and ANEW", list(p, 3, "", 1024), ".");
    }

    /** "the next one alone has no room: INFO_LENGTH". */
    private static void roomOfTheNextOne() {
        Peer p = with("abcdefghij");
        is("31", list(p, 1, "a*", 31), NO_ROOM);
        is("32", list(p, 1, "a*", 32), "abcdefghij");
        Check.eq("class 1: 83", p.status(Peer.list(1, 1, 1, "a*", 83)), Status.INFO_LENGTH);
        Answer a = p.ask(Peer.list(1, 1, 1, "a*", 84));
        Check.eq("class 1: 84", a.length(), 72 + 84);
        Check.eq("how long", a.n(68, 4), 84);
        is("0", list(p, 1, "a*", 0), NO_ROOM);
        is("ONE", list(p, 3, "a*", 31), NO_ROOM);
    }

    private static void infoLengthStaysThere() {
        Peer p = with("a", "abcdefghij", "b");
        is("the first", list(p, 2, "a*", 1024), "a");
        is("no room", list(p, 0, "", 20), NO_ROOM);
        is("no room again", list(p, 0, "", 31), NO_ROOM);
        is("room", list(p, 0, "", 32), "abcdefghij");
        is("none any more, whatever room", list(p, 0, "", 0), NO_MORE);
    }

    /** "none matches at all, the first time or ANEW: NO_SUCH_FILE". */
    private static void noneMatches() {
        is("the first time", list(with("a"), 0, "b", 1024), NO_SUCH);
        is("no room, either", list(with("a"), 0, "b", 0), NO_SUCH);
        Peer p = with("a");
        is("a", list(p, 0, "a", 1024), "a");
        is("ANEW", list(p, 1, "b", 1024), NO_SUCH);
        is("ANEW and ONE", list(p, 3, "b", 1024), NO_SUCH);
    }

    /** "none any more: NO_MORE_FILES". */
    private static void noneAnyMore() {
        Peer p = with();
        is("all", list(p, 0, "", 1024), ".|..");
        is("none", list(p, 0, "", 1024), NO_MORE);
        is("none still", list(p, 0, "", 1024), NO_MORE);
        Check.eq("class 1, too", p.status(Peer.list(1, 1, 0, "", 1024)), Status.NO_MORE_FILES);
    }

    /** "What comes or goes in between: the next NAME behind the last one told counts." */
    private static void whatComes() {
        Peer p = with("b", "d");
        is("the first two", list(p, 0, "?", 30), ".|b");
        p.ask(Peer.shortCreate("a", ALL, 7, 2, 0, 0));
        p.ask(Peer.shortCreate("C", ALL, 7, 2, 0, 0));
        is("behind b", list(p, 2, "", 1024), "C");
        is("then d", list(p, 0, "", 1024), "d");
        is("none", list(p, 0, "", 1024), NO_MORE);
        p.ask(Peer.shortCreate("e", ALL, 7, 2, 0, 0));
        is("one that came behind the last", list(p, 0, "", 1024), "e");
    }

    private static void whatGoes() {
        Peer p = with("a", "b", "c");
        is("two", list(p, 0, "?", 30), ".|a");
        p.ask(Peer.setToGo(3, 1));
        p.ask(Peer.close(3));
        p.ask(Peer.setToGo(2, 1));
        p.ask(Peer.close(2));
        is("b and a went", list(p, 0, "", 1024), "c");
        is("anew", list(p, 1, "?", 1024), ".|c");
    }

    /** The last one told is kept by its NAME, not by its node. */
    private static void namesBehindTheLast() {
        Peer p = with("a", "b", "c");
        is("to b", list(p, 0, "?", 46), ".|a|b");
        p.ask(Peer.rename(2, 0, "d"));
        p.ask(Peer.rename(3, 0, "0"));
        is("a is told again as d", list(p, 0, "", 1024), "c|d");
        p.ask(Peer.rename(4, 0, "e"));
        is("c as e", list(p, 0, "", 1024), "e");
        // the same letters are the same name
        p.ask(Peer.rename(4, 0, "E"));
        is("E is not behind e", list(p, 0, "", 1024), NO_MORE);
    }

    /** A unit of a pattern has 2 bytes: none above 126 matches, or is a * or ?. */
    private static void unitsOf2Bytes() {
        Peer p = with("a", "b");
        for (String s : new String[] {"\u0161", "\u6100", "\u012A", "\u013F", "\u2A00", "a\u0100", "\uFF41"}) {
            is("pattern", list(p, 1, s, 1024), NO_SUCH);
        }
    }

    private static void longestNames() {
        Peer p = Peer.fresh();
        p.openDirectory("");
        p.open("abcdefghijkl");
        p.open("abcdefghijk");
        is("both", list(p, 0, "*", 1024), ".|..|abcdefghijk|abcdefghijkl");
        is("by itself", list(p, 1, "ABCDEFGHIJKL", 1024), "abcdefghijkl");
        is("by ?", list(p, 1, "????????????", 1024), "abcdefghijkl");
        is("its last unit", list(p, 1, "*l", 1024), "abcdefghijkl");
        is("one unit more", list(p, 1, "?????????????", 1024), NO_SUCH);
    }

    /** A node's NAME is what stands behind the last \ of the path that it was made by, or moved to. */
    private static void namesWithoutTheirPath() {
        Peer p = Peer.fresh();
        p.openDirectory("dir");
        p.openDirectory("dir\\e");
        p.open("dir\\x");
        p.open("dir\\e\\yy");
        is("dir", list(p, 1, "", 1024), ".|..|e|x");
        is("dir\\e", p.ask(Peer.list(2, 12, 1, "", 1024)), ".|..|yy");
        p.ask(Peer.rename(3, 0, "dir\\e\\zz"));
        is("moved", p.ask(Peer.list(2, 12, 1, "", 1024)), ".|..|yy|zz");
        is("not where it was", list(p, 1, "", 1024), ".|..|e");
        p.openDirectory("");
        p.ask(Peer.rename(4, 0, "w"));
        is("to the root", p.ask(Peer.list(5, 12, 1, "", 1024)), ".|..|dir|w");
    }

    /** A NAME that was longer once counts as it is now. */
    private static void namesThatWereLonger() {
        Peer p = with("azzz", "ab", "b");
        p.ask(Peer.rename(2, 0, "a"));
        is("the first", list(p, 3, "?*", 1024), ".");
        is("the second", list(p, 2, "", 1024), "..");
        is("a", list(p, 2, "", 1024), "a");
        is("ab is behind a", list(p, 2, "", 1024), "ab");
        is("not az*", list(p, 1, "az*", 1024), NO_SUCH);
    }

    /** "Each but the last is filled with 0s until 8 divides it, NEXT telling that." */
    private static void entriesAreFilled() {
        Peer p = with("~~~~~~~~~~", "abc");
        list(p, 1, "", 1024);
        Answer a = list(p, 1, "a*", 1024);
        Check.eq("the last one is not filled", a.length(), 72 + 18);
        Check.eq("how long", a.n(68, 4), 18);
        a = list(p, 1, "*", 1024);
        Check.eq("NEXT of .", a.n(72, 4), 16);
        Check.eq("0 behind NEXT", a.n(76, 4), 0);
        Check.eq("how long its NAME is", a.n(80, 4), 2);
        Check.eq("filled with 0s", a.n(86, 2), 0);
        Check.eq("NEXT of ..", a.n(88, 4), 16);
        Check.eq("NEXT of abc", a.n(104, 4), 24);
        Check.eq("filled with 0s, too", a.n(122, 6), 0);
        Check.eq("NEXT of the last", a.n(128, 4), 0);
        a = p.ask(Peer.list(1, 1, 1, "?*c", 1024));
        Check.eq("class 1: 0 behind NEXT", a.n(72, 8), 0);
        a = p.ask(Peer.list(1, 1, 1, "*", 1024));
        Check.eq("class 1: NEXT", a.n(72, 4), 72);
        Check.eq("class 1: filled", a.n(138, 6), 0);
        Check.eq("class 1: NEXT of abc", a.n(72 + 144, 4), 72);
    }
}
