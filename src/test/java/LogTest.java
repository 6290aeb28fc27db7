/** Promises 4, 10 and 14, part 1: the log, what is on the disk, crashes. */
public final class LogTest {
    private static final int ALL = Peer.ALL;

    private LogTest() {
    }

    public static void main(String[] args) {
        recordsOfEachChange();
        eightWait();
        eachPrefix();
        crashesEndAll();
        sharesMakeAllCome();
        namesAndPlaces();
        numbersAfterACrash();
        timesOfRoots();
        toGoIsForgotten();
        bytesComeBack();
        Check.end("LogTest");
    }

    private static void waits(String what, Peer p, int due) {
        Check.eq(what, p.wire.house.told(1), due);
    }

    private static void recordsOfEachChange() {
        Peer p = Peer.fresh();
        waits("none", p, 0);
        long f = p.open("f");
        waits("a node made", p, 1);
        p.open("f");
        waits("opened", p, 1);
        p.ask(Peer.write(f, 0, "abc"));
        waits("bytes put", p, 2);
        p.ask(Peer.setSize(f, 1));
        waits("a size set", p, 3);
        p.ask(Peer.setValues(f, 0, 0, 0, 0, 0));
        waits("values set", p, 4);
        p.ask(Peer.rename(f, 0, "g"));
        waits("a name changed", p, 5);
        p.ask(Peer.setToGo(f, 1));
        p.ask(Peer.setToGo(f, 0));
        p.ask(Peer.lock(f, 0, 1, 2));
        p.ask(Peer.read(f, 0, 1));
        waits("others are none", p, 5);
        p.ask(Peer.create("g", ALL, 7, 5, 0, 0));
        waits("emptied", p, 7);
        Check.eq("crash of more", p.wire.house.crash(8), -1);
        Check.eq("crash below 0", p.wire.house.crash(-1), -1);
        Check.eq("nothing changed", p.wire.house.told(3), 3);
        p.ask(Peer.flush(f));
        waits("FLUSH", p, 0);
        p.open("h");
        p.ask(Peer.close(f));
        waits("CLOSE", p, 0);
    }

    private static void eightWait() {
        Peer p = Peer.fresh();
        for (int i = 1; i <= 20; i++) {
            p.open("n" + i);
            waits("records", p, i % 8);
            Check.eq("nodes", p.wire.house.told(2), i + 1);
            Check.eq("on the disk", p.wire.house.told(8), 1 + i / 8 * 8);
        }
        // two records at once, when seven wait
        Peer q = Peer.fresh();
        q.open("f");
        for (int i = 0; i < 6; i++) {
            q.ask(Peer.write(1, i, "x"));
        }
        waits("seven", q, 7);
        q.ask(Peer.create("f", ALL, 7, 5, 0, 0));
        waits("the eighth came, the ninth waits", q, 1);
    }

    private static Peer story() {
        Peer p = Peer.fresh();
        p.ask(Peer.close(p.open("old")));
        p.wire.house.tick(10);
        long f = p.open("f");
        p.ask(Peer.write(f, 2, "abcdef"));
        p.ask(Peer.setSize(f, 4));
        p.ask(Peer.setValues(f, 77, 78, 79, 80, 2));
        p.ask(Peer.rename(f, 1, "old"));
        return p;
    }

    private static void eachPrefix() {
        for (int k = 0; k <= 6; k++) {
            Peer p = story();
            Check.eq("crash " + k, p.wire.house.crash(k), 6);
            waits("none wait", p, 0);
            Peer q = Peer.on(p.wire, 1);
            int[] nodes = {2, 3, 3, 3, 3, 2, 2};
            Check.eq("nodes " + k, p.wire.house.told(2), nodes[k]);
            Check.eq("on the disk " + k, p.wire.house.told(8), nodes[k]);
            Answer a = q.ask(Peer.create(k == 6 ? "OLD" : "f", ALL, 7, 1, 0, 0));
            Check.eq("there " + k, a.status(), k == 0 ? Status.NAME_NOT_FOUND : Status.OK);
            if (k == 0) {
                continue;
            }
            int[] size = {0, 0, 8, 4, 4, 4, 4};
            Check.eq("SIZE " + k, a.n(112, 8), size[k]);
            Check.eq("made " + k, a.n(72, 8), k >= 4 ? 77 : 10);
            Check.eq("looked at " + k, a.n(80, 8), k >= 4 ? 78 : 10);
            Check.eq("written " + k, a.n(88, 8), k >= 4 ? 79 : 10);
            Check.eq("changed " + k, a.n(96, 8), k == 6 ? 10 : k >= 4 ? 80 : 10);
            Check.eq("ATTRIBUTES " + k, a.n(120, 4), k >= 4 ? 2 : 32);
            if (k >= 2) {
                Check.eq("bytes " + k, q.ask(Peer.read(a.n(128, 8), 0, 4)).n(80, 4), 'a' << 16 | 'b' << 24);
            }
            Check.eq("the other " + k, q.status(Peer.create("old", ALL, 7, 1, 0, 0)),
                    k == 5 ? Status.NAME_NOT_FOUND : Status.OK);
        }
    }

    private static void crashesEndAll() {
        Wire w = new Wire();
        w.share(0, "DATA");
        Peer p = Peer.on(w, 0);
        Peer q = Peer.on(w, 3);
        w.house.tick(50);
        long f = p.open("f", 9);
        q.ask(Peer.create("f", ALL, 7, 1, 0, 0));
        p.ask(Peer.lock(f, 0, 1, 2));
        p.ask(Peer.lock(f, 0, 1, 2));
        Check.eq("two wait", w.house.told(5), 2);
        w.send(3, q.mine(Peer.echo()));
        w.tape(new byte[40]);
        Check.eq("crash", w.house.crash(0), 1);
        Check.eq("the tape stays", w.house.cut(40), 0);
        w.house.cut(0);
        int[] due = {50, 0, 1, 0, 0, 0, 0, 0, 1};
        for (int i = 0; i < due.length; i++) {
            Check.eq("told " + i, w.house.told(i), due[i]);
        }
        for (int c = 0; c < 6; c++) {
            Check.not("connections", w.house.isOpen(c));
            Check.eq("OUTS", w.house.outs(c), 0);
        }
        p = Peer.on(w, 0);
        q = Peer.on(w, 3);
        Check.eq("sessions anew", p.session, 1);
        Check.eq("trees anew", q.tree, 2);
        Check.eq("opens anew", p.open("f", 9), 1);
        Check.eq("ASYNC numbers anew", q.ask(Peer.create("f", ALL, 7, 1, 0, 0)).async(), 1);
    }

    private static void sharesMakeAllCome() {
        Peer p = Peer.fresh();
        p.open("f");
        Check.not("refused", p.wire.share(1, "data"));
        waits("nothing came", p, 1);
        p.wire.house.tick(6);
        Check.is("a share", p.wire.share(1, "TWO"));
        waits("all came", p, 0);
        Check.eq("on the disk", p.wire.house.told(8), 3);
        p.wire.house.crash(0);
        Check.eq("it stays", p.wire.house.told(2), 3);
        Peer q = Peer.on(p.wire, 2);
        q.connectTree("two");
        Answer a = q.ask(Peer.create("", ALL, 7, 1, 0, 0));
        Check.eq("its times", a.n(72, 8), 6);
        Check.eq("its last time", a.n(96, 8), 6);
        Check.eq("not the other's files", q.status(Peer.create("f", ALL, 7, 1, 0, 0)), Status.NAME_NOT_FOUND);
        q.open("f");
        Check.eq("each share has its own", p.wire.house.told(2), 4);
    }

    private static void namesAndPlaces() {
        Peer p = Peer.fresh();
        p.ask(Peer.close(p.openDirectory("d")));
        p.ask(Peer.close(p.openDirectory("e")));
        long f = p.open("d\\f");
        p.ask(Peer.flush(f));
        p.ask(Peer.rename(f, 0, "e\\g"));
        p.ask(Peer.rename(f, 0, "h"));
        p.wire.house.crash(1);
        Peer q = Peer.on(p.wire, 0);
        Check.eq("the first change came", q.status(Peer.create("e\\g", ALL, 7, 1, 0, 0)), Status.OK);
        Check.eq("the second did not", q.status(Peer.create("h", ALL, 7, 1, 0, 0)), Status.NAME_NOT_FOUND);
        Check.eq("nor is it where it was", q.status(Peer.create("d\\f", ALL, 7, 1, 0, 0)), Status.NAME_NOT_FOUND);
    }

    private static void numbersAfterACrash() {
        Peer p = Peer.fresh();
        p.open("a");
        p.open("b");
        p.ask(Peer.flush(1));
        p.open("c");
        p.wire.house.crash(0);
        Peer q = Peer.on(p.wire, 0);
        Check.eq("NUMBER of b", q.ask(Peer.info(q.open("b"), 1, 18, 80)).n(136, 8), 2);
        Check.eq("NUMBER of the next", q.ask(Peer.info(q.open("z"), 1, 18, 80)).n(136, 8), 3);
        // bytes that were lost do not shine through
        long b = q.open("b");
        q.ask(Peer.write(b, 0, "secret"));
        q.wire.house.crash(0);
        Peer r = Peer.on(p.wire, 0);
        b = r.open("b");
        Check.eq("lost", r.status(Peer.read(b, 0, 1)), Status.END_OF_FILE);
        r.ask(Peer.setSize(b, 6));
        Check.eq("0s", r.ask(Peer.read(b, 0, 6)).n(80, 6), 0);
    }

    private static void timesOfRoots() {
        Peer p = Peer.fresh();
        long root = p.openDirectory("");
        p.wire.house.tick(4);
        p.open("f");
        Check.eq("a node made does not change its directory", p.ask(Peer.info(root, 1, 4, 40)).n(96, 8), 0);
        Check.eq("values of a root", p.status(Peer.setValues(root, 5, 5, 5, 5, 2)), Status.OK);
        p.wire.house.crash(2);
        Peer q = Peer.on(p.wire, 0);
        Check.eq("came", q.ask(Peer.create("", ALL, 7, 1, 0, 0)).n(120, 4), 18);
    }

    private static void bytesComeBack() {
        Peer p = Peer.fresh();
        long f = p.open("f");
        p.ask(Peer.write(f, 0, "abcdef"));
        p.ask(Peer.flush(f));
        p.ask(Peer.write(f, 2, "XY"));
        p.ask(Peer.setValues(p.openDirectory(""), 9, 9, 9, 9, 4));
        Check.eq("crash", p.wire.house.crash(0), 2);
        Peer q = Peer.on(p.wire, 0);
        f = q.open("f");
        Check.eq("as on the disk", q.ask(Peer.read(f, 0, 6)).n(80, 6),
                'a' | 'b' << 8 | 'c' << 16 | (long) 'd' << 24 | (long) 'e' << 32 | (long) 'f' << 40);
        Check.eq("the root, too", q.ask(Peer.create("", ALL, 7, 1, 0, 0)).n(120, 4), 16);
    }

    private static void toGoIsForgotten() {
        Peer p = Peer.fresh();
        long f = p.open("f");
        p.ask(Peer.flush(f));
        p.ask(Peer.setToGo(f, 1));
        Check.eq("no record", p.wire.house.crash(0), 0);
        Peer q = Peer.on(p.wire, 0);
        Check.eq("not to go after a crash", q.status(Peer.create("f", ALL, 7, 1, 0, 0)), Status.OK);
    }
}
