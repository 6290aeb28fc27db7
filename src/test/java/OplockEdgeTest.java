import java.util.List;

/** Part 5, "OPLOCKS": each edge that it names. */
public final class OplockEdgeTest {
    private static final int ALL = Peer.ALL;

    private OplockEdgeTest() {
    }

    public static void main(String[] args) {
        grantedAlone();
        grantedBesideOthers();
        grantedBesideLocks();
        grantedOfDirectories();
        brokenIsFirst();
        batchIsAheadOfShares();
        exclusiveIsBehindShares();
        brokenTo();
        itHasItsOplockTillItIsAnswered();
        notTheLastDoesNotWait();
        emptyingBreaksLevelTwo();
        levelTwoBySerials();
        whatBreaksLevelTwo();
        whatDoesNotBreakLevelTwo();
        aBreak();
        answersOfAllLevels();
        notBroken();
        answeredTwice();
        answeredByClose();
        answeredByTheEndOfATree();
        lapsesAt35();
        lapsesByManyTicks();
        lapsesBySerials();
        createsOfThisNodeAlone();
        eldestFirst();
        fromThePathOn();
        waitsOnForAnother();
        doneAgainIsAnsweredOnce();
        brokenSinceItWasDoneAgain();
        lapsesWhenNoneWaits();
        fortyOpensByThen();
        Check.end("OplockEdgeTest");
    }

    private static Peer[] peers(int many) {
        Wire w = new Wire();
        w.share(0, "DATA");
        Peer[] all = new Peer[many];
        for (int i = 0; i < many; i++) {
            all[i] = Peer.on(w, i);
        }
        return all;
    }

    private static Req opening(String path, int disposition, int oplock) {
        return Peer.shortCreate(path, ALL, 7, disposition, 0, oplock);
    }

    /** "GRANTED is, when nothing else has it open: as asked". */
    private static void grantedAlone() {
        for (int x : new int[] {0, 1, 8, 9}) {
            Peer p = Peer.fresh();
            Check.eq("made " + x, p.ask(opening("f", 3, x)).n(66, 1), x);
            p.ask(Peer.close(1));
            Check.eq("there " + x, p.ask(opening("f", 3, x)).n(66, 1), x);
            p.ask(Peer.close(2));
            Check.eq("emptied " + x, p.ask(opening("f", 5, x)).n(66, 1), x);
            Check.eq("another file " + x, p.ask(opening("g", 3, x)).n(66, 1), x);
        }
    }

    /** "else 1, if anything was asked, no other open has 8, 9 ..; else 0". */
    private static void grantedBesideOthers() {
        for (int has : new int[] {0, 1}) {
            for (int x : new int[] {0, 1, 2, 8, 9}) {
                Peer p = Peer.fresh();
                p.open("f", has);
                boolean asked = x == 1 || x == 8 || x == 9;
                Check.eq("beside " + has + ": " + x, p.ask(opening("f", 1, x)).n(66, 1), asked ? 1 : 0);
            }
        }
    }

    /** "and there are no locks on it; else 0". */
    private static void grantedBesideLocks() {
        Peer p = Peer.fresh();
        p.open("f");
        p.open("g");
        p.ask(Peer.lock(1, 0, 0, 1));
        Check.eq("a lock of no bytes is one", p.ask(opening("f", 1, 9)).n(66, 1), 0);
        Check.eq("of another file", p.ask(opening("g", 1, 9)).n(66, 1), 1);
        p.ask(Peer.lock(1, 0, 0, 4));
        Check.eq("none any more", p.ask(opening("f", 1, 8)).n(66, 1), 1);
    }

    /** "0 of DIRECTORIES". */
    private static void grantedOfDirectories() {
        for (int x : new int[] {1, 8, 9}) {
            Peer p = Peer.fresh();
            Check.eq("made " + x, p.ask(Peer.create("d", ALL, 7, 3, 1, x)).n(66, 1), 0);
            p.ask(Peer.close(1));
            Check.eq("there " + x, p.ask(Peer.create("d", ALL, 7, 3, 1, x)).n(66, 1), 0);
            Check.eq("nothing to break " + x, p.status(Peer.create("d", ALL, 7, 3, 1, x)), Status.OK);
        }
    }

    /** "an open of it is BROKEN: it WAITS", ahead of the SHARE of others, without another BREAK. */
    private static void brokenIsFirst() {
        for (int oplock : new int[] {8, 9}) {
            Peer[] p = peers(2);
            p[0].open("f", oplock);
            Check.eq("the first", p[1].status(opening("f", 1, 0)), Status.PENDING);
            Check.eq("one BREAK", p[0].news().size(), 1);
            Check.eq("that would be SHARING", p[1].status(Peer.shortCreate("f", ALL, 0, 1, 0, 0)), Status.PENDING);
            Check.eq("one that would empty it", p[1].status(opening("f", 5, 0)), Status.PENDING);
            Check.eq("no other BREAK", p[0].news().size(), 0);
            Check.eq("it is to 1 still", p[0].status(Peer.answerBreak(1, 1)), Status.OK);
        }
    }

    /** "one has BATCH: that is BROKEN, and it WAITS; the SHARE of others". */
    private static void batchIsAheadOfShares() {
        Peer[] p = peers(2);
        p[0].open("f", 9);
        Check.eq("that would be SHARING", p[1].status(Peer.shortCreate("f", ALL, 0, 1, 0, 0)), Status.PENDING);
        Check.eq("a BREAK", p[0].news().size(), 1);
        p[0].ask(Peer.answerBreak(1, 0));
        Check.eq("SHARING then", p[1].news().get(0).status(), Status.SHARING);
    }

    /** "the SHARE of others; one has EXCLUSIVE: that is BROKEN, and it WAITS". */
    private static void exclusiveIsBehindShares() {
        Peer[] p = peers(2);
        p[0].open("f", 8);
        Check.eq("SHARING", p[1].status(Peer.shortCreate("f", ALL, 0, 1, 0, 0)), Status.SHARING);
        Check.eq("no BREAK", p[0].news().size(), 0);
        Check.eq("not BROKEN", p[0].status(Peer.answerBreak(1, 0)), Status.OPLOCK_PROTOCOL);
        Check.eq("one that shares", p[1].status(opening("f", 1, 0)), Status.PENDING);
        Check.eq("a BREAK then", p[0].news().size(), 1);
    }

    /** "a BREAK is sent on its connection, to 1, but to 0 if DISPOSITION is 0, 4, 5". */
    private static void brokenTo() {
        for (int oplock : new int[] {8, 9}) {
            for (int d = 0; d <= 5; d++) {
                Peer[] p = peers(2);
                p[0].open("f", oplock);
                int status = p[1].status(opening("f", d, 0));
                List<Answer> news = p[0].news();
                if (d == 2) {
                    Check.eq("NAME_COLLISION is ahead", status, Status.NAME_COLLISION);
                    Check.eq("no BREAK", news.size(), 0);
                    continue;
                }
                boolean empties = d == 0 || d == 4 || d == 5;
                Check.eq("waits " + d, status, Status.PENDING);
                Check.eq("to " + d, news.get(0).n(66, 1), empties ? 0 : 1);
                Check.eq("not on the other's " + d, p[1].notes.size(), 0);
                Check.eq("level 1 " + d, p[0].status(Peer.answerBreak(1, 1)),
                        empties ? Status.OPLOCK_PROTOCOL : Status.OK);
            }
        }
    }

    /** "it has its OPLOCK till it is answered". */
    private static void itHasItsOplockTillItIsAnswered() {
        Peer[] p = peers(3);
        p[0].open("f", 9);
        p[1].ask(opening("f", 1, 1));
        p[0].ask(Peer.write(1, 0, "x"));
        Check.eq("the CREATE waits", p[0].wire.house.told(5), 1);
        Check.eq("no open but its own", p[0].wire.house.told(3), 1);
        // with 0 there is none that has 8 or 9: 1 is granted
        p[0].ask(Peer.answerBreak(1, 0));
        Check.eq("opened with 1", p[1].news().get(0).n(66, 1), 1);
    }

    /** "A CREATE that is not the last of its message does not WAIT: SHARING (BREAKS are sent all the same)." */
    private static void notTheLastDoesNotWait() {
        for (int oplock : new int[] {8, 9}) {
            Peer[] p = peers(2);
            p[0].open("f", oplock);
            List<Answer> all = p[1].askAll(opening("f", 1, 0), Peer.read(Peer.BEFORE, 0, 1).related());
            Check.eq("SHARING", all.get(0).status(), Status.SHARING);
            Check.eq("no FILE", all.get(1).status(), Status.INVALID_PARAMETER);
            Check.eq("FLAGS", all.get(0).flags(), 1);
            Check.eq("a BREAK", p[0].news().size(), 1);
            Check.eq("none waits", p[0].wire.house.told(5), 0);
            Check.eq("BROKEN: the last one waits", p[1].status(opening("f", 1, 0)), Status.PENDING);
            Check.eq("no ASYNC number was used up by those", p[1].ask(opening("f", 1, 0)).async(), 2);
        }
    }

    /** "LEVEL II of others is broken when it is emptied (DISPOSITION 0, 4, 5)." */
    private static void emptyingBreaksLevelTwo() {
        for (int d = 0; d <= 5; d++) {
            if (d == 2) {
                continue;
            }
            Peer[] p = peers(2);
            p[0].open("f", 1);
            Answer a = p[1].ask(opening("f", d, 1));
            Check.eq("OK " + d, a.status(), Status.OK);
            boolean empties = d == 0 || d == 4 || d == 5;
            List<Answer> news = p[0].news();
            Check.eq("broken " + d, news.size(), empties ? 1 : 0);
            Check.eq("its own is granted " + d, a.n(66, 1), 1);
            Check.eq("and not broken " + d, p[1].notes.size(), 0);
            if (empties) {
                Check.eq("to 0 " + d, news.get(0).n(66, 1), 0);
            }
        }
    }

    /** "LEVEL II is broken (..; by serials)". */
    private static void levelTwoBySerials() {
        Peer[] p = peers(2);
        p[0].open("f", 1);
        p[0].open("f", 1);
        p[0].open("f", 0);
        p[0].open("f", 1);
        p[1].open("f", 1);
        p[0].news();
        p[1].ask(Peer.write(5, 0, "x"));
        List<Answer> news = p[0].news();
        Check.eq("three", news.size(), 3);
        Check.eq("1", news.get(0).n(72, 8), 1);
        Check.eq("2", news.get(1).n(72, 8), 2);
        Check.eq("4", news.get(2).n(72, 8), 4);
        Check.eq("not its own", p[1].notes.size(), 0);
        p[1].ask(Peer.write(5, 0, "x"));
        Check.eq("it is 0 then", p[0].news().size(), 0);
    }

    private static int broken(Req r) {
        Peer[] p = peers(2);
        p[0].open("f", 1);
        p[1].open("f", 1);
        p[1].ask(r);
        return p[0].news().size() + 10 * p[1].notes.size();
    }

    /** "(WRITE, LOCK, SET_INFO 20, DISPOSITION 0, 4, 5; ..)"; LOCK its own, too. */
    private static void whatBreaksLevelTwo() {
        Check.eq("WRITE", broken(Peer.write(2, 0, "x")), 1);
        Check.eq("SET_INFO 20", broken(Peer.setSize(2, 5)), 1);
        Check.eq("SET_INFO 20 of the same SIZE", broken(Peer.setSize(2, 0)), 1);
        Check.eq("LOCK", broken(Peer.lock(2, 0, 1, 2)), 11);
        Check.eq("LOCK SHARED of no bytes", broken(Peer.lock(2, 0, 0, 0x11)), 11);
        Check.eq("two LOCKS, of which one cannot be", broken(Peer.lock(2, 0, 1, 0x12, 0, 1, 0x12)), 11);
        Check.eq("emptied", broken(opening("f", 4, 0)), 11);
    }

    private static void whatDoesNotBreakLevelTwo() {
        Req[] others = {Peer.read(2, 0, 0), Peer.write(2, 0, ""), Peer.write(2, 5000, "x"), Peer.setSize(2, 5000),
            Peer.setValues(2, 1, 1, 1, 1, 2), Peer.setToGo(2, 1), Peer.rename(2, 0, "g"), Peer.lock(2, 0, 1, 4),
            Peer.lock(2, 0, 1, 7), Peer.lock(2, -1L, 2, 2), Peer.flush(2), Peer.close(2), opening("f", 1, 0),
            opening("f", 2, 0), Peer.shortCreate("f", ALL, 0, 5, 0, 0), Peer.info(2, 1, 18, 80), Peer.answerBreak(2, 0)};
        for (Req r : others) {
            Check.eq("COMMAND " + r.n(12, 2), broken(r), 0);
        }
    }

    /** "A BREAK: a message with a HEADER of COMMAND 18, FLAGS 1, ID all 255s, else 0; 64 (2) 24; ..". */
    private static void aBreak() {
        Peer[] p = peers(2);
        p[0].open("f", 9);
        p[1].ask(opening("f", 1, 0));
        Check.eq("a message of its own", p[0].wire.house.outs(0), 4 + 88);
        Answer a = p[0].news().get(0);
        int[] header = {254, 83, 77, 66, 64, 0, 0, 0, 0, 0, 0, 0, 18, 0, 0, 0, 1};
        for (int i = 0; i < 64; i++) {
            int due = i < header.length ? header[i] : i >= 24 && i < 32 ? 255 : 0;
            Check.eq("HEADER " + i, a.n(i, 1), due);
        }
        Check.eq("24", a.n(64, 2), 24);
        Check.eq("level", a.n(66, 6), 1);
        Check.eq("FILE", a.n(72, 8), 1);
        Check.eq("FILE twice", a.n(80, 8), 1);
    }

    /** "level not above the one told (OPLOCK_PROTOCOL; it is answered by that all the same: it has 0 then): it has that". */
    private static void answersOfAllLevels() {
        int[] levels = {0, 1, 2, 8, 9, 128, 255};
        for (int to = 0; to <= 1; to++) {
            for (int level : levels) {
                Peer[] p = peers(2);
                p[0].open("f", 9);
                p[1].ask(opening("f", to == 0 ? 5 : 1, 0));
                p[0].news();
                Answer a = p[0].ask(Peer.answerBreak(1, level));
                boolean fits = level <= to;
                Check.eq("level " + level + " of " + to, a.status(), fits ? Status.OK : Status.OPLOCK_PROTOCOL);
                if (fits) {
                    Check.eq("length", a.length(), 88);
                    Check.eq("24", a.n(64, 2), 24);
                    Check.eq("level as asked", a.n(66, 1), level);
                    Check.eq("nothing between", a.n(67, 5), 0);
                    Check.eq("FILE", a.n(72, 8), 1);
                    Check.eq("FILE twice", a.n(80, 8), 1);
                }
                Check.eq("it is answered", p[1].news().get(0).status(), Status.OK);
                p[1].ask(Peer.write(2, 0, "x"));
                Check.eq("what it has: LEVEL II is broken", p[0].news().size(), level == 1 && to == 1 ? 1 : 0);
            }
        }
    }

    /** "it is BROKEN (else OPLOCK_PROTOCOL)". */
    private static void notBroken() {
        for (int oplock : new int[] {0, 1, 8, 9}) {
            Peer[] p = peers(2);
            p[0].open("f", oplock);
            Check.eq("not BROKEN " + oplock, p[0].status(Peer.answerBreak(1, 0)), Status.OPLOCK_PROTOCOL);
            Check.eq("it has it still " + oplock, p[1].status(opening("f", 1, 0)),
                    oplock < 8 ? Status.OK : Status.PENDING);
        }
        Peer p = Peer.fresh();
        p.openDirectory("d");
        Check.eq("a directory", p.status(Peer.answerBreak(1, 0)), Status.OPLOCK_PROTOCOL);
    }

    /** LEVEL II that was broken needs no answer, and takes none. */
    private static void answeredTwice() {
        Peer[] p = peers(2);
        p[0].open("f", 9);
        p[1].ask(opening("f", 1, 1));
        p[0].ask(Peer.answerBreak(1, 1));
        Check.eq("again", p[0].status(Peer.answerBreak(1, 1)), Status.OPLOCK_PROTOCOL);
        p[1].ask(Peer.write(2, 0, "x"));
        p[0].news();
        Check.eq("of LEVEL II", p[0].status(Peer.answerBreak(1, 0)), Status.OPLOCK_PROTOCOL);
    }

    /** "It is answered by CLOSE too". */
    private static void answeredByClose() {
        Peer[] p = peers(2);
        p[0].open("f", 9);
        p[1].ask(opening("f", 1, 9));
        Check.eq("waits", p[0].wire.house.told(5), 1);
        p[0].ask(Peer.close(1));
        Answer a = p[1].news().get(0);
        Check.eq("opened alone", a.n(66, 1), 9);
        Check.eq("FLAGS", a.flags(), 3);
        Check.eq("length", a.length(), 152);
        p[0].wire.house.tick(35);
        Check.eq("nothing lapses", p[1].news().size(), 0);
    }

    private static void answeredByTheEndOfATree() {
        for (int how = 0; how < 3; how++) {
            Peer[] p = peers(2);
            p[0].open("f", 9);
            p[1].ask(opening("f", 1, 9));
            if (how == 0) {
                p[0].wire.house.hang(0);
            } else {
                p[0].ask(how == 1 ? Peer.treeOff() : Peer.logOff());
            }
            Check.eq("opened " + how, p[1].news().get(0).n(66, 1), 9);
            Check.eq("none waits " + how, p[0].wire.house.told(5), 0);
        }
    }

    /** "when 35 or more of NOW went by since, by tick(): as with 0". */
    private static void lapsesAt35() {
        int[][] ticks = {{34, 0}, {35, 1}, {36, 1}, {1000000, 1}, {0, 0}};
        for (int[] x : ticks) {
            Peer[] p = peers(2);
            p[0].wire.house.tick(100);
            p[0].open("f", 9);
            p[1].ask(opening("f", 1, 1));
            p[0].news();
            p[0].wire.house.tick(x[0]);
            List<Answer> news = p[1].news();
            Check.eq("after " + x[0], news.size(), x[1]);
            if (x[1] == 1) {
                Check.eq("opened with 1", news.get(0).n(66, 1), 1);
                Check.eq("no BREAK again", p[0].news().size(), 0);
                p[1].ask(Peer.write(2, 0, "x"));
                Check.eq("it has 0", p[0].news().size(), 0);
                Check.eq("it is not BROKEN", p[0].status(Peer.answerBreak(1, 0)), Status.OPLOCK_PROTOCOL);
            } else {
                Check.eq("it is BROKEN", p[0].status(Peer.answerBreak(1, 1)), Status.OK);
            }
        }
    }

    /** Since it was BROKEN, not since it was opened, nor since another CREATE came. */
    private static void lapsesByManyTicks() {
        Peer[] p = peers(2);
        House h = p[0].wire.house;
        p[0].open("f", 9);
        h.tick(100);
        p[1].ask(opening("f", 1, 1));
        h.tick(20);
        p[1].ask(opening("f", 1, 1));
        Check.not("a tick that is none", h.tick(-1));
        Check.not("another", h.tick(1000001));
        Check.eq("both wait", h.told(5), 2);
        h.tick(14);
        Check.eq("34 went by", h.told(5), 2);
        h.tick(1);
        Check.eq("35", h.told(5), 0);
        Check.eq("both are opened", p[1].news().size(), 2);
    }

    /** "BREAKS that lapse, by serials", each with what waits for it. */
    private static void lapsesBySerials() {
        Peer[] p = peers(2);
        House h = p[0].wire.house;
        p[0].open("a", 9);
        p[0].open("b", 9);
        p[0].open("c", 9);
        p[1].ask(opening("c", 1, 0));
        p[1].ask(opening("b", 1, 0));
        h.tick(10);
        p[1].ask(opening("a", 1, 0));
        h.tick(25);
        List<Answer> news = p[1].news();
        Check.eq("two lapse", news.size(), 2);
        Check.eq("b first", news.get(0).async(), 2);
        Check.eq("then c", news.get(1).async(), 1);
        Check.eq("serials by that", news.get(0).n(128, 8), 4);
        h.tick(9);
        Check.eq("a not yet", h.told(5), 1);
        h.tick(1);
        Check.eq("a then", p[1].news().get(0).async(), 3);
    }

    /** "Then CREATES that WAIT for this node are done again". */
    private static void createsOfThisNodeAlone() {
        Peer[] p = peers(2);
        p[0].open("a", 9);
        p[0].open("b", 9);
        p[1].ask(opening("a", 1, 0));
        p[1].ask(opening("b", 1, 0));
        p[0].ask(Peer.answerBreak(2, 0));
        List<Answer> news = p[1].news();
        Check.eq("one", news.size(), 1);
        Check.eq("b", news.get(0).async(), 2);
        Check.eq("a waits on", p[0].wire.house.told(5), 1);
    }

    /** "the eldest first, .., and answered, or WAIT on". */
    private static void eldestFirst() {
        Peer[] p = peers(4);
        p[0].open("f", 9);
        p[2].ask(opening("f", 1, 9));
        p[1].ask(opening("f", 1, 9));
        p[3].ask(opening("f", 1, 0));
        p[0].ask(Peer.close(1));
        List<Answer> news = p[2].news();
        Check.eq("the eldest is opened", news.get(0).n(66, 1), 9);
        Check.eq("and BROKEN for the next", news.get(1).command(), 18);
        Check.eq("one BREAK alone", news.size(), 2);
        Check.eq("the others wait on", p[0].wire.house.told(5), 2);
        Check.eq("with no answer", p[1].news().size() + p[3].news().size(), 0);
        p[2].ask(Peer.answerBreak(2, 1));
        Check.eq("the second", p[1].news().get(0).n(128, 8), 3);
        Check.eq("the third", p[3].news().get(0).n(128, 8), 4);
    }

    /** "from the path on": what has become of the path counts, and all that is looked at behind it. */
    private static void fromThePathOn() {
        int[] due = {Status.NAME_NOT_FOUND, Status.DELETE_PENDING, Status.ACCESS_DENIED, Status.PATH_NOT_FOUND};
        for (int what = 0; what < due.length; what++) {
            Peer[] p = peers(2);
            p[0].openDirectory("d");
            p[0].open("d\\f", 9);
            Check.eq("waits", p[1].status(opening("d\\f", 1, 0)), Status.PENDING);
            p[0].news();
            Req r = what == 1 ? Peer.setToGo(2, 1) : what == 2 ? Peer.setValues(2, 0, 0, 0, 0, 1) : Peer.rename(2, 0, "x");
            Check.eq("changed", p[0].status(r), Status.OK);
            if (what == 3) {
                p[0].ask(Peer.setToGo(1, 1));
                p[0].ask(Peer.close(1));
            }
            Check.eq("it waits on", p[0].wire.house.told(5), 1);
            p[0].ask(Peer.answerBreak(2, 0));
            Answer a = p[1].news().get(0);
            Check.eq("answered " + what, a.status(), due[what]);
            Check.eq("error body", a.length(), 73);
            Check.eq("FLAGS", a.flags(), 3);
        }
        // what was looked at before the path is not looked at again: it may be made anew
        Peer[] p = peers(2);
        p[0].open("f", 9);
        p[1].ask(opening("f", 3, 9));
        p[0].ask(Peer.setToGo(1, 1));
        p[0].ask(Peer.close(1));
        Answer a = p[1].news().get(0);
        Check.eq("made anew", a.n(68, 4), 2);
        Check.eq("a record waits", p[0].wire.house.told(1), 1);
    }

    /** A path that leads to another node by then is waited for there. */
    private static void waitsOnForAnother() {
        Peer[] p = peers(2);
        p[0].open("f", 9);
        p[0].open("g", 9);
        p[1].ask(opening("f", 1, 0));
        p[0].ask(Peer.rename(1, 0, "h"));
        p[0].ask(Peer.rename(2, 0, "f"));
        p[0].news();
        Check.eq("answered", p[0].status(Peer.answerBreak(1, 0)), Status.OK);
        Check.eq("another is BROKEN", p[0].notes.size(), 1);
        Check.eq("that one", p[0].notes.get(0).n(72, 8), 2);
        Check.eq("it waits on", p[0].wire.house.told(5), 1);
        p[0].ask(Peer.answerBreak(2, 0));
        Check.eq("opened", p[1].news().get(0).status(), Status.OK);
    }

    /** A BREAK that is sent for a CREATE that is done again begins then. */
    private static void brokenSinceItWasDoneAgain() {
        Peer[] p = peers(3);
        House h = p[0].wire.house;
        p[0].open("f", 9);
        p[1].ask(opening("f", 1, 9));
        p[2].ask(opening("f", 1, 9));
        h.tick(30);
        p[0].ask(Peer.close(1));
        Check.eq("the first has BATCH, and is BROKEN", p[1].news().size(), 2);
        h.tick(34);
        Check.eq("34 went by since", h.told(5), 1);
        h.tick(1);
        Check.eq("35", p[2].news().get(0).n(66, 1), 1);
    }

    /** It is BROKEN, and lapses, though the CREATE that it was BROKEN for is given up. */
    private static void lapsesWhenNoneWaits() {
        Peer[] p = peers(2);
        House h = p[0].wire.house;
        p[0].open("f", 9);
        p[1].ask(opening("f", 1, 0));
        p[1].wire.send(1, Peer.cancel().id(p[1].nextId - 1));
        p[1].news();
        p[0].news();
        h.tick(34);
        Check.eq("BROKEN still", p[1].status(opening("f", 1, 0)), Status.PENDING);
        Check.eq("without another BREAK", p[0].news().size(), 0);
        p[1].wire.send(1, Peer.cancel().id(p[1].nextId - 1));
        p[1].news();
        h.tick(1);
        Check.eq("it has 0 then", p[1].ask(opening("f", 1, 9)).n(66, 1), 1);
        Check.eq("and nothing is sent", p[0].news().size(), 0);
    }

    /** "40 opens: RESOURCES", of a CREATE that is done again, too. */
    private static void fortyOpensByThen() {
        Peer[] p = peers(2);
        p[0].open("f", 9);
        Check.eq("waits", p[1].status(opening("f", 1, 0)), Status.PENDING);
        Req[] many = new Req[39];
        for (int i = 0; i < many.length; i++) {
            many[i] = Peer.shortCreate("g", 1, 1, 3, 0, 0);
        }
        p[0].askAll(java.util.Arrays.copyOf(many, 20));
        p[0].askAll(java.util.Arrays.copyOfRange(many, 20, 39));
        Check.eq("40", p[0].wire.house.told(3), 40);
        Check.eq("answered", p[0].status(Peer.answerBreak(1, 0)), Status.OK);
        Check.eq("RESOURCES", p[1].news().get(0).status(), Status.RESOURCES);
        Check.eq("none waits", p[0].wire.house.told(5), 0);
    }

    /** "later, once, with FLAGS ASYNC and that number". */
    private static void doneAgainIsAnsweredOnce() {
        Peer[] p = peers(2);
        p[0].open("f", 9);
        Answer a = p[1].ask(opening("f", 1, 0));
        Check.eq("PENDING", a.status(), Status.PENDING);
        p[0].ask(Peer.answerBreak(1, 0));
        List<Answer> news = p[1].news();
        Check.eq("once", news.size(), 1);
        Check.eq("the same number", news.get(0).async(), a.async());
        Check.eq("the same ID", news.get(0).id(), a.id());
        Check.eq("no CREDITS", news.get(0).credits(), 0);
        p[0].wire.house.tick(1000);
        p[0].ask(Peer.close(1));
        p[1].wire.send(1, Peer.cancel().id(a.id()));
        Check.eq("never again", p[1].news().size(), 0);
    }
}
