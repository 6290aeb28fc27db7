import java.util.List;

/** Part 1, "THE TREE": each edge that it names. */
public final class TreeEdgeTest {
    private static final int ALL = Peer.ALL;

    private TreeEdgeTest() {
    }

    public static void main(String[] args) {
        sharesAre0To3();
        shareNamesHave1To12Units();
        shareNamesHaveUnits33To126();
        anotherShareHasTheName();
        namesHave1To12Units();
        namesHaveUnits32To126();
        namesHaveNoUnitsAbove126();
        dotsAreNoNames();
        unlikeAllOthersInItsDirectory();
        lettersAreTheSameForAllComparing();
        attributesOfFiles();
        attributesOfDirectories();
        sizesAre0To4096();
        numbersAreTheLeastFree();
        Check.end("TreeEdgeTest");
    }

    /** "There are SHARES 0 .. 3". */
    private static void sharesAre0To3() {
        Wire w = new Wire();
        int[] none = {-1, 4, 5, 256, Integer.MIN_VALUE, Integer.MAX_VALUE};
        for (int i : none) {
            Check.not("share " + i, w.share(i, "A"));
        }
        for (int i = 0; i < 4; i++) {
            Check.is("share " + i, w.share(i, "A" + i));
            Check.not("it is told already", w.share(i, "B" + i));
            Check.eq("a root each", w.house.told(2), i + 1);
        }
    }

    /** "told by name (1 to 12 units ..)". */
    private static void shareNamesHave1To12Units() {
        Wire w = new Wire();
        Check.not("0 units", w.share(0, ""));
        Check.not("13 units", w.share(0, "1234567890123"));
        Check.not("20 units", w.share(0, "12345678901234567890"));
        Check.eq("no root", w.house.told(2), 0);
        Check.is("1 unit", w.share(0, "1"));
        Check.is("12 units", w.share(1, "123456789012"));
        Check.is("11 of them", w.share(2, "12345678901"));
    }

    /** "units 33 .. 126, none \". */
    private static void shareNamesHaveUnits33To126() {
        for (int unit = 0; unit < 256; unit++) {
            boolean fits = unit >= 33 && unit <= 126 && unit != '\\';
            for (String name : new String[] {"" + (char) unit, "a" + (char) unit, (char) unit + "a"}) {
                Wire w = new Wire();
                Check.eq("a name with " + unit, w.share(0, name) ? 1 : 0, fits ? 1 : 0);
                Check.eq("its root", w.house.told(2), fits ? 1 : 0);
            }
        }
    }

    /** "False: .. another SHARE has it"; letters are the same. */
    private static void anotherShareHasTheName() {
        Wire w = new Wire();
        Check.is("the first", w.share(3, "aZ@["));
        Check.not("the same", w.share(0, "aZ@["));
        Check.not("other letters", w.share(1, "Az@["));
        Check.is("no letters: ` is not @", w.share(1, "aZ`["));
        Check.is("no letters: { is not [", w.share(2, "aZ@{"));
        Check.is("shorter", w.share(0, "aZ@"));
        Check.eq("roots", w.house.told(2), 4);
    }

    /** "a NAME of 1 to 12 units". */
    private static void namesHave1To12Units() {
        Peer p = Peer.fresh();
        Check.eq("1", p.status(making("a")), Status.OK);
        Check.eq("12", p.status(making("abcdefghijkl")), Status.OK);
        Check.eq("13", p.status(making("abcdefghijklm")), Status.NAME_INVALID);
        Check.eq("0, ahead of \\", p.status(making("\\a")), Status.NAME_INVALID);
        Check.eq("0, behind it", p.status(making("a\\")), Status.NAME_INVALID);
        Check.eq("0, between two", p.status(making("d\\\\a")), Status.NAME_INVALID);
        Check.eq("13 on the way", p.status(making("abcdefghijklm\\a")), Status.NAME_INVALID);
        p.openDirectory("123456789012");
        Check.eq("12 on the way", p.status(making("123456789012\\123456789012")), Status.OK);
        Check.eq("nodes", p.wire.house.told(2), 5);
    }

    /** "of 1 to 12 units 32 .. 126, none of \ / : * ? " < > |". */
    private static void namesHaveUnits32To126() {
        String none = "\\/:*?\"<>|";
        for (int from = 0; from < 128; from += 16) {
            Peer p = Peer.fresh();
            Req[] all = new Req[16];
            for (int i = 0; i < 16; i++) {
                all[i] = Peer.shortCreate("#" + (char) (from + i) + i, 1, 7, 2, 0, 0);
            }
            List<Answer> answers = p.askAll(all);
            for (int i = 0; i < 16; i++) {
                int unit = from + i;
                boolean fits = unit >= 32 && unit <= 126 && none.indexOf(unit) < 0;
                int due = fits ? Status.OK : unit == '\\' ? Status.PATH_NOT_FOUND : Status.NAME_INVALID;
                Check.eq("unit " + unit, answers.get(i).status(), due);
            }
        }
    }

    /** Units have 2 bytes: what is above 126 is none, whatever its lower byte is. */
    private static void namesHaveNoUnitsAbove126() {
        Peer p = Peer.fresh();
        int[] none = {127, 128, 160, 255, 256, 256 + 'a', 0x6100, 0xFF41, 0xFFFF};
        for (int unit : none) {
            Check.eq("unit " + unit, p.status(making("" + (char) unit)), Status.NAME_INVALID);
        }
        Check.eq("nodes", p.wire.house.told(2), 1);
    }

    /** "not "." or ".."". */
    private static void dotsAreNoNames() {
        Peer p = Peer.fresh();
        String[] none = {".", "..", ".\\a", "..\\a", "a\\.", "a\\.."};
        for (String s : none) {
            Check.eq("no NAME " + s, p.status(making(s)), Status.NAME_INVALID);
        }
        String[] names = {"...", "....", ".a", "a.", "..a", "a..", ". ", "............"};
        for (String s : names) {
            Check.eq("a NAME " + s, p.status(making(s)), Status.OK);
        }
    }

    /** "unlike all others in its directory". */
    private static void unlikeAllOthersInItsDirectory() {
        Peer p = Peer.fresh();
        p.openDirectory("d");
        long f = p.open("f");
        Check.eq("the same name elsewhere", p.status(making("d\\f")), Status.OK);
        Check.eq("not twice", p.status(making("d\\F")), Status.NAME_COLLISION);
        Check.eq("a directory, too", p.status(Peer.create("D", ALL, 7, 2, 1, 0)), Status.NAME_COLLISION);
        Check.eq("nor by another name", p.status(Peer.rename(f, 0, "d\\f")), Status.NAME_COLLISION);
        Check.eq("longer by one", p.status(making("ff")), Status.OK);
        Check.eq("nodes", p.wire.house.told(2), 5);
    }

    /** "Letters a .. z and A .. Z of names are the same for all comparing, a .. z counting as A .. Z." */
    private static void lettersAreTheSameForAllComparing() {
        Wire w = new Wire();
        w.share(0, "azAZ@[`{");
        Peer p = Peer.bare(w, 0);
        p.setUp("u");
        Check.eq("no letters in a path's share", p.status(Peer.tree("azAZ`[`{")), Status.BAD_SHARE);
        Check.eq("nor these", p.status(Peer.tree("azAZ@{`{")), Status.BAD_SHARE);
        p.connectTree("AZaz@[`{");
        Check.eq("made", p.status(making("azAZ@[`{m")), Status.OK);
        Check.eq("found", p.status(Peer.create("AZaz@[`{M", ALL, 7, 1, 0, 0)), Status.OK);
        Check.eq("` is not @", p.status(Peer.create("azAZ`[`{m", ALL, 7, 1, 0, 0)), Status.NAME_NOT_FOUND);
        Check.eq("{ is not [", p.status(Peer.create("azAZ@{`{m", ALL, 7, 1, 0, 0)), Status.NAME_NOT_FOUND);
        long root = p.openDirectory("");
        Check.eq("a pattern", p.status(Peer.list(root, 12, 1, "AZAZ@[`{m", 100)), Status.OK);
        Check.eq("not that one", p.status(Peer.list(root, 12, 1, "AZAZ@[@{m", 100)), Status.NO_SUCH_FILE);
        // _ and ` stand behind Z, but ahead of a
        p.ask(making("_"));
        p.ask(making("`"));
        p.ask(making("z"));
        Check.eq("z counts as Z", p.ask(Peer.list(root, 12, 3, "?", 100)).n(84, 2), '.');
        Check.eq("z is first", p.ask(Peer.list(root, 12, 2, "", 100)).n(84, 2), 'z');
        Check.eq("then _", p.ask(Peer.list(root, 12, 2, "", 100)).n(84, 2), '_');
        Check.eq("then `", p.ask(Peer.list(root, 12, 2, "", 100)).n(84, 2), '`');
    }

    /** "ATTRIBUTES (1 READONLY, 2 HIDDEN, 4 SYSTEM, 32 ARCHIVE; ..; 128 is told where there is none)". */
    private static void attributesOfFiles() {
        int[] asked = {0, 1, 2, 4, 8, 16, 32, 64, 128, 7, 0xFF, 0xFFFFFFD8, -1};
        for (int x : asked) {
            Peer p = Peer.fresh();
            Answer a = p.ask(Peer.create("f", ALL, 7, 3, 0, 0).put(92, 4, x));
            Check.eq("made with " + x, a.n(120, 4), x & 0x27 | 32);
            p.ask(Peer.setValues(1, 0, 0, 0, 0, x));
            int due = x == 0 ? 32 : (x & 0x27) == 0 ? 128 : x & 0x27;
            Check.eq("set to " + x, p.ask(Peer.info(1, 1, 4, 40)).n(104, 4), due);
            Check.eq("told by CLOSE " + x, p.ask(Peer.close(1).put(66, 2, 1)).n(120, 4), due);
        }
    }

    /** "16 of DIRECTORIES, told where ATTRIBUTES are"; "a DIRECTORY with 2, 4 of it". */
    private static void attributesOfDirectories() {
        int[] asked = {0, 1, 2, 4, 8, 16, 32, 128, 7, -1};
        for (int x : asked) {
            Peer p = Peer.fresh();
            Answer a = p.ask(Peer.create("d", ALL, 7, 3, 1, 0).put(92, 4, x));
            Check.eq("made with " + x, a.n(120, 4), x & 6 | 16);
            p.ask(Peer.setValues(1, 0, 0, 0, 0, x));
            int due = x == 0 ? 16 : x & 0x27 | 16;
            Check.eq("set to " + x, p.ask(Peer.info(1, 1, 4, 40)).n(104, 4), due);
        }
    }

    /** "a file a SIZE 0 .. 4096 and as many bytes". */
    private static void sizesAre0To4096() {
        Peer p = Peer.fresh();
        long f = p.open("f");
        Check.eq("4096 by SET_INFO", p.status(Peer.setSize(f, 4096)), Status.OK);
        Check.eq("its last byte", p.ask(Peer.read(f, 4095, 10)).n(68, 4), 1);
        Check.eq("none behind it", p.status(Peer.read(f, 4096, 1)), Status.END_OF_FILE);
        Check.eq("4097 by SET_INFO", p.status(Peer.setSize(f, 4097)), Status.DISK_FULL);
        Check.eq("0 by SET_INFO", p.status(Peer.setSize(f, 0)), Status.OK);
        Check.eq("no first byte", p.status(Peer.read(f, 0, 1)), Status.END_OF_FILE);
        Check.eq("4096 by WRITE", p.status(Peer.write(f, 4094, "xy")), Status.OK);
        Check.eq("4097 by WRITE", p.status(Peer.write(f, 4094, "abc")), Status.DISK_FULL);
        Check.eq("its bytes stay", p.ask(Peer.read(f, 4094, 2)).n(80, 2), 'x' | 'y' << 8);
        Check.eq("its SIZE stays", p.ask(Peer.info(f, 1, 5, 24)).n(80, 8), 4096);
        Check.eq("its room", p.ask(Peer.info(f, 1, 5, 24)).n(72, 8), 4096);
    }

    private static long number(Peer p, long file) {
        return p.ask(Peer.info(file, 1, 18, 80)).n(136, 8);
    }

    /** "A node's NUMBER is the least free one (from 0 on; a share's root gets one, too)." */
    private static void numbersAreTheLeastFree() {
        Peer p = Peer.fresh();
        Check.eq("the root", number(p, p.openDirectory("")), 0);
        long a = p.open("a");
        long b = p.open("b");
        Check.eq("the first", number(p, a), 1);
        Check.eq("the second", number(p, b), 2);
        Check.is("another root", p.wire.share(2, "S"));
        long d = p.openDirectory("d");
        Check.eq("behind it", number(p, d), 4);
        p.ask(Peer.setToGo(b, 1));
        p.ask(Peer.close(b));
        p.ask(Peer.setToGo(a, 1));
        p.ask(Peer.close(a));
        Check.eq("the least free", number(p, p.open("x")), 1);
        Check.is("a root again", p.wire.share(1, "T"));
        p.connectTree("t");
        Check.eq("the least free, too", number(p, p.openDirectory("")), 2);
        Check.eq("none free between", number(p, p.open("y")), 5);
    }

    private static Req making(String path) {
        return Peer.create(path, ALL, 7, 2, 0, 0);
    }
}
