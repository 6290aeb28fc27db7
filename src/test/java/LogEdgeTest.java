/** Part 1, "THE LOG", and promises 4, 10, 14: which RECORDS there are, when they come, what a crash leaves. */
public final class LogEdgeTest {
    private static final int ALL = Peer.ALL;

    private LogEdgeTest() {
    }

    public static void main(String[] args) {
        eachChangeIsARecord();
        whatIsNoRecord();
        doneInTheTreeAtOnce();
        sevenWait();
        twoAtOnce();
        flushAndCloseMakeAllCome();
        shareMakesAllCome();
        crashBelow0OrAbove();
        crashOfNone();
        eachNumberOfRecords();
        bytesAndSizes();
        namesAndNumbers();
        goneAndMadeAnew();
        allIsGone();
        serialsBeginAnew();
        nowStays();
        sharesStay();
        theTapeStays();
        whatIsToGoIsForgotten();
        crashAfterCrash();
        Check.end("LogEdgeTest");
    }

    private static int waiting(Peer p) {
        return p.wire.house.told(1);
    }

    /** "a node made; bytes put ..; a size set ..; ATTRIBUTES and times set; a name changed ..; a node gone." */
    private static void eachChangeIsARecord() {
        Peer p = Peer.fresh();
        p.open("f");
        Check.eq("a node made", waiting(p), 1);
        p.openDirectory("d");
        Check.eq("a directory made", waiting(p), 2);
        p.ask(Peer.write(1, 0, "x"));
        Check.eq("bytes put", waiting(p), 3);
        p.ask(Peer.setSize(1, 5));
        Check.eq("a size set", waiting(p), 4);
        p.ask(Peer.setValues(1, 1, 1, 1, 1, 2));
        Check.eq("ATTRIBUTES and times", waiting(p), 5);
        p.ask(Peer.rename(1, 0, "d\\g"));
        Check.eq("a name changed", waiting(p), 6);
        Peer q = Peer.fresh();
        q.open("f");
        q.open("g");
        q.ask(Peer.close(2));
        Check.eq("none wait", waiting(q), 0);
        q.ask(Peer.create("f", ALL, 7, 0, 0, 0));
        Check.eq("emptied: a size, and ATTRIBUTES", waiting(q), 2);
        q.ask(Peer.rename(1, 1, "g"));
        Check.eq("a node gone, and a name changed", waiting(q), 4);
    }

    private static void whatIsNoRecord() {
        Peer p = Peer.fresh();
        p.open("f");
        p.ask(Peer.create("f", ALL, 7, 1, 0, 9));
        p.ask(Peer.read(1, 0, 0));
        p.ask(Peer.write(1, 0, ""));
        p.ask(Peer.setToGo(1, 1));
        p.ask(Peer.setToGo(1, 0));
        p.ask(Peer.lock(1, 0, 1, 2));
        p.ask(Peer.lock(1, 0, 1, 4));
        p.ask(Peer.info(1, 1, 18, 80));
        p.ask(Peer.create("f", ALL, 7, 2, 0, 0));
        p.ask(Peer.tree("DATA"));
        p.wire.house.tick(100);
        Check.eq("one", waiting(p), 1);
    }

    /** "They are done in the tree at once." */
    private static void doneInTheTreeAtOnce() {
        Peer p = Peer.fresh();
        p.open("f");
        Check.eq("nodes", p.wire.house.told(2), 2);
        Check.eq("on the disk", p.wire.house.told(8), 1);
        p.ask(Peer.write(1, 0, "abc"));
        Check.eq("bytes", p.ask(Peer.read(1, 0, 3)).n(80, 3), 'a' | 'b' << 8 | 'c' << 16);
        Check.eq("both wait", waiting(p), 2);
    }

    /** "RECORDS that have not come to the disk WAIT; when 8 wait all come". */
    private static void sevenWait() {
        Peer p = Peer.fresh();
        p.open("f");
        for (int i = 2; i <= 7; i++) {
            p.ask(Peer.write(1, 0, "x"));
            Check.eq("wait", waiting(p), i);
        }
        Check.eq("none came", p.wire.house.told(8), 1);
        p.ask(Peer.write(1, 0, "x"));
        Check.eq("the eighth: all came", waiting(p), 0);
        Check.eq("on the disk", p.wire.house.told(8), 2);
        p.ask(Peer.write(1, 0, "x"));
        Check.eq("the ninth waits", waiting(p), 1);
    }

    private static void twoAtOnce() {
        for (int before = 5; before <= 7; before++) {
            Peer p = Peer.fresh();
            p.open("f");
            for (int i = 1; i < before; i++) {
                p.ask(Peer.write(1, 0, "x"));
            }
            Check.eq("before", waiting(p), before);
            p.ask(Peer.create("f", ALL, 7, 5, 0, 0));
            Check.eq("two more than " + before, waiting(p), (before + 2) % 8);
        }
    }

    /** "FLUSH (of any file) and CLOSE make all come". */
    private static void flushAndCloseMakeAllCome() {
        Peer p = Peer.fresh();
        p.open("f");
        p.open("g");
        p.ask(Peer.write(2, 0, "x"));
        p.ask(Peer.flush(1));
        Check.eq("FLUSH of another file", waiting(p), 0);
        Check.eq("on the disk", p.wire.house.told(8), 3);
        p.ask(Peer.write(2, 0, "y"));
        p.ask(Peer.close(1));
        Check.eq("CLOSE of another file", waiting(p), 0);
        p.ask(Peer.write(2, 0, "z"));
        p.wire.house.hang(0);
        Check.eq("closed by the end of its session", waiting(p), 0);
        Check.eq("crash", p.wire.house.crash(0), 0);
        Peer q = Peer.on(p.wire, 1);
        q.open("g");
        Check.eq("it came", q.ask(Peer.read(1, 0, 1)).n(80, 1), 'z');
    }

    /** "which has a root from now on (on the disk, too: all RECORDS come first; all TIMES NOW)". */
    private static void shareMakesAllCome() {
        Peer p = Peer.fresh();
        p.open("f");
        p.ask(Peer.write(1, 0, "x"));
        Check.not("refused: told already", p.wire.share(0, "NEW"));
        Check.not("refused: no such name", p.wire.share(1, ""));
        Check.not("refused: another has it", p.wire.share(1, "data"));
        Check.not("refused: no such SHARE", p.wire.share(4, "NEW"));
        Check.eq("two wait still", waiting(p), 2);
        p.wire.house.tick(9);
        Check.is("share", p.wire.share(1, "NEW"));
        Check.eq("all came", waiting(p), 0);
        Check.eq("nodes on the disk", p.wire.house.told(8), 3);
        Check.eq("crash", p.wire.house.crash(0), 0);
        Peer q = Peer.on(p.wire, 0);
        q.connectTree("new");
        Answer a = q.ask(Peer.create("", ALL, 7, 1, 0, 0));
        for (int at = 72; at <= 96; at += 8) {
            Check.eq("TIMES", a.n(at, 8), 9);
        }
        Check.eq("ATTRIBUTES", a.n(120, 4), 16);
    }

    /** "NONE: k is below 0, or above that." */
    private static void crashBelow0OrAbove() {
        Peer p = Peer.fresh();
        p.open("f", 9);
        p.open("g");
        for (int k : new int[] {-1, 3, 4, 8, Integer.MIN_VALUE, Integer.MAX_VALUE}) {
            Check.eq("crash " + k, p.wire.house.crash(k), -1);
        }
        Check.is("nothing is gone", p.wire.house.isOpen(0));
        Check.eq("opens", p.wire.house.told(3), 2);
        Check.eq("records", waiting(p), 2);
        Check.eq("nodes", p.wire.house.told(2), 3);
        Check.eq("it goes on", p.status(Peer.read(1, 0, 0)), Status.OK);
        Check.eq("all of them", p.wire.house.crash(2), 2);
        Check.eq("came", p.wire.house.told(8), 3);
    }

    private static void crashOfNone() {
        Wire w = new Wire();
        Check.eq("of a new one", w.house.crash(0), 0);
        Check.eq("more than none", w.house.crash(1), -1);
        Peer p = Peer.fresh();
        Check.eq("nothing waits", p.wire.house.crash(0), 0);
        Check.not("all the same: gone", p.wire.house.isOpen(0));
        Peer q = Peer.fresh();
        q.open("f");
        Check.eq("none of one", q.wire.house.crash(0), 1);
        Check.eq("lost", q.wire.house.told(2), 1);
        Check.eq("not on the disk", q.wire.house.told(8), 1);
    }

    /** A past with seven RECORDS, each of another kind: "the first k still come, the others are lost". */
    private static Peer past() {
        Peer p = Peer.fresh();
        p.open("old");
        p.ask(Peer.close(1));
        p.wire.house.tick(10);
        p.openDirectory("d");
        p.open("f");
        p.ask(Peer.write(3, 1, "abc"));
        p.ask(Peer.setSize(3, 3));
        p.ask(Peer.setValues(3, 21, 22, 23, 24, 4));
        p.ask(Peer.rename(3, 1, "old"));
        Check.eq("seven", waiting(p), 7);
        return p;
    }

    private static void eachNumberOfRecords() {
        int[] nodes = {2, 3, 4, 4, 4, 4, 3, 3};
        for (int k = 0; k <= 7; k++) {
            Peer p = past();
            Check.eq("crash", p.wire.house.crash(k), 7);
            Check.eq("nodes " + k, p.wire.house.told(2), nodes[k]);
            Check.eq("on the disk " + k, p.wire.house.told(8), nodes[k]);
            Check.eq("none wait " + k, waiting(p), 0);
            Peer q = Peer.on(p.wire, 4);
            Check.eq("d " + k, q.status(Peer.create("d", 0x80, 7, 1, 1, 0)), k >= 1 ? Status.OK : Status.NAME_NOT_FOUND);
            Answer old = q.ask(Peer.create("old", 1, 7, 1, 0, 0));
            Check.eq("old " + k, old.status(), k == 6 ? Status.NAME_NOT_FOUND : Status.OK);
            Answer a = k == 7 ? old : q.ask(Peer.create("f", 1, 7, 1, 0, 0));
            Check.eq("f " + k, a.status(), k >= 2 ? Status.OK : Status.NAME_NOT_FOUND);
            if (k < 2) {
                continue;
            }
            Check.eq("SIZE " + k, a.n(112, 8), k == 2 ? 0 : k == 3 ? 4 : 3);
            Check.eq("made " + k, a.n(72, 8), k >= 5 ? 21 : 10);
            Check.eq("looked at " + k, a.n(80, 8), k >= 5 ? 22 : 10);
            Check.eq("written " + k, a.n(88, 8), k >= 5 ? 23 : 10);
            Check.eq("changed " + k, a.n(96, 8), k == 7 ? 10 : k >= 5 ? 24 : 10);
            Check.eq("ATTRIBUTES " + k, a.n(120, 4), k >= 5 ? 4 : 32);
            if (k >= 3) {
                Check.eq("bytes " + k, q.ask(Peer.read(a.n(128, 8), 0, 3)).n(80, 3), 'a' << 8 | 'b' << 16);
            }
        }
    }

    /** What was lost does not come back by growing, nor what was cut. */
    private static void bytesAndSizes() {
        Peer p = Peer.fresh();
        p.open("f");
        p.ask(Peer.write(1, 0, "abcdef"));
        p.ask(Peer.flush(1));
        p.ask(Peer.write(1, 1, "XYZ"));
        p.ask(Peer.setSize(1, 2));
        p.ask(Peer.write(1, 8, "!"));
        Check.eq("crash", p.wire.house.crash(0), 3);
        Peer q = Peer.on(p.wire, 0);
        Check.eq("SIZE", q.ask(Peer.create("f", ALL, 7, 1, 0, 0)).n(112, 8), 6);
        Check.eq("its bytes", q.ask(Peer.read(1, 0, 6)).n(80, 6),
                'a' | 'b' << 8 | 'c' << 16 | (long) 'd' << 24 | (long) 'e' << 32 | (long) 'f' << 40);
        q.ask(Peer.setSize(1, 9));
        Check.eq("0s behind them", q.ask(Peer.read(1, 6, 3)).n(80, 3), 0);
        q.ask(Peer.setSize(1, 1));
        q.ask(Peer.setSize(1, 6));
        Check.eq("all three come", q.wire.house.crash(3), 3);
        Peer r = Peer.on(p.wire, 0);
        r.open("f");
        Check.eq("a and 0s", r.ask(Peer.read(1, 0, 6)).n(80, 6), 'a');
    }

    private static long number(Peer p, String path) {
        return p.ask(Peer.info(p.open(path), 1, 18, 80)).n(136, 8);
    }

    private static void namesAndNumbers() {
        Peer p = Peer.fresh();
        p.openDirectory("d");
        p.open("a");
        p.ask(Peer.flush(2));
        p.ask(Peer.rename(2, 0, "d\\b"));
        p.ask(Peer.rename(2, 0, "c"));
        p.open("x");
        Check.eq("crash", p.wire.house.crash(1), 3);
        Peer q = Peer.on(p.wire, 0);
        Check.eq("where it was then", number(q, "d\\b"), 2);
        Check.eq("not there yet", q.status(Peer.create("c", ALL, 7, 1, 0, 0)), Status.NAME_NOT_FOUND);
        Check.eq("not there any more", q.status(Peer.create("a", ALL, 7, 1, 0, 0)), Status.NAME_NOT_FOUND);
        Check.eq("the least free NUMBER", number(q, "y"), 3);
    }

    /** A NUMBER that was free may be another node's by a later RECORD. */
    private static void goneAndMadeAnew() {
        for (int k = 0; k <= 4; k++) {
            Peer p = Peer.fresh();
            p.open("a");
            p.open("b");
            p.ask(Peer.write(1, 0, "aaa"));
            p.ask(Peer.write(2, 0, "bbb"));
            p.ask(Peer.close(1));
            // a goes: one RECORD, then its name is b's; the new directory has its NUMBER
            Check.eq("b takes a's place", p.status(Peer.rename(2, 1, "a")), Status.OK);
            p.openDirectory("n");
            p.ask(Peer.setValues(3, 5, 5, 5, 5, 2));
            Check.eq("crash", p.wire.house.crash(k), 4);
            Peer q = Peer.on(p.wire, 0);
            Answer a = q.ask(Peer.create("a", 1, 7, 1, 0, 0));
            Check.eq("a " + k, a.status(), k == 1 ? Status.NAME_NOT_FOUND : Status.OK);
            Answer n = q.ask(Peer.create("n", 1, 7, 1, 0, 0));
            Check.eq("n " + k, n.status(), k >= 3 ? Status.OK : Status.NAME_NOT_FOUND);
            if (k != 1) {
                Check.eq("its bytes " + k, q.ask(Peer.read(a.n(128, 8), 0, 1)).n(80, 1), k == 0 ? 'a' : 'b');
            }
            if (k >= 3) {
                Check.eq("ATTRIBUTES of n " + k, n.n(120, 4), k == 3 ? 16 : 18);
                Check.eq("SIZE of n " + k, n.n(112, 8), 0);
            }
        }
    }

    /** "Connections, sessions, opens, all that waits are gone"; "(OUTS are empty then.)" */
    private static void allIsGone() {
        Wire w = new Wire();
        w.share(0, "DATA");
        Peer p = Peer.on(w, 0);
        Peer q = Peer.on(w, 5);
        p.open("f", 9);
        q.ask(Peer.create("f", ALL, 7, 1, 0, 0));
        p.ask(Peer.lock(1, 0, 1, 2));
        p.ask(Peer.lock(1, 0, 1, 2));
        w.send(5, q.mine(Peer.echo()));
        w.come(5, new byte[] {0, 0, 0});
        Check.eq("crash", w.house.crash(0), 1);
        int[] due = {0, 0, 1, 0, 0, 0, 0, 0, 1};
        for (int i = 0; i < due.length; i++) {
            Check.eq("told " + i, w.house.told(i), due[i]);
        }
        for (int c = 0; c < 6; c++) {
            Check.not("isOpen " + c, w.house.isOpen(c));
            Check.eq("OUT " + c, w.house.outs(c), 0);
            Check.not("hang " + c, w.house.hang(c));
        }
        Peer again = Peer.bare(w, 5);
        Check.eq("what came of a message is gone, too", again.status(Peer.echo()), Status.OK);
    }

    /** "(serials, ASYNC numbers begin anew; ..)". */
    private static void serialsBeginAnew() {
        Wire w = new Wire();
        w.share(0, "DATA");
        Peer p = Peer.on(w, 0);
        p.setUp("second");
        p.connectTree("DATA");
        p.open("f");
        p.open("f");
        p.ask(Peer.lock(1, 0, 1, 2));
        p.ask(Peer.lock(1, 0, 1, 2));
        w.house.crash(1);
        Peer q = Peer.on(w, 0);
        Check.eq("session", q.session, 1);
        Check.eq("tree", q.tree, 1);
        Check.eq("open", q.open("f"), 1);
        q.ask(Peer.lock(1, 0, 1, 2));
        Check.eq("ASYNC number", q.ask(Peer.lock(1, 0, 1, 2)).async(), 1);
    }

    /** "NOW stays". */
    private static void nowStays() {
        Wire w = new Wire();
        w.share(0, "DATA");
        w.house.tick(123456);
        w.house.crash(0);
        Check.eq("NOW", w.house.told(0), 123456);
        Peer p = Peer.on(w, 0);
        Check.eq("made NOW", p.ask(Peer.create("f", ALL, 7, 3, 0, 0)).n(72, 8), 123456);
    }

    private static void sharesStay() {
        Wire w = new Wire();
        w.share(2, "One");
        w.house.crash(0);
        Check.not("it is told", w.share(2, "Two"));
        Check.not("another has it", w.share(0, "ONE"));
        Check.is("another", w.share(0, "Two"));
        Peer p = Peer.bare(w, 0);
        p.setUp("u");
        Check.eq("its tree", p.status(Peer.tree("one")), Status.OK);
    }

    private static void theTapeStays() {
        Wire w = new Wire();
        w.house.feed(0x41424344, 0, 0, 0, 0);
        w.house.crash(0);
        Check.eq("20 bytes", w.house.cut(4), 16);
        Check.is("share", w.house.share(0));
    }

    /** Whether a node is to go is no RECORD. */
    private static void whatIsToGoIsForgotten() {
        Peer p = Peer.fresh();
        p.open("f");
        p.ask(Peer.create("g", ALL, 7, 3, 0x1000, 0));
        p.ask(Peer.flush(1));
        p.ask(Peer.setToGo(1, 1));
        Check.eq("crash", p.wire.house.crash(0), 0);
        Check.eq("both are there", p.wire.house.told(2), 3);
        Peer q = Peer.on(p.wire, 0);
        q.ask(Peer.close(q.open("f")));
        q.ask(Peer.close(q.open("g")));
        Check.eq("and stay", p.wire.house.told(2), 3);
    }

    private static void crashAfterCrash() {
        Peer p = past();
        p.wire.house.crash(4);
        Check.eq("nothing waits", p.wire.house.crash(1), -1);
        Check.eq("again", p.wire.house.crash(0), 0);
        Check.eq("nodes", p.wire.house.told(2), 4);
        Peer q = Peer.on(p.wire, 1);
        q.open("n");
        Check.eq("a record again", q.wire.house.crash(1), 1);
        Check.eq("it came", q.wire.house.told(8), 5);
    }
}
