import java.util.List;

/** Part 2: "AN ANSWER", OUT, "ASYNC", "RELATED". */
public final class AnswerEdgeTest {
    private static final int ALL = Peer.ALL;

    private AnswerEdgeTest() {
    }

    public static void main(String[] args) {
        headerAsAsked();
        errorBodies();
        filledUntil8Divides();
        cancelHasNoAnswer();
        outHas16000();
        outIsFull();
        whatIsLostIsDoneAllTheSame();
        breaksAreLostToo();
        connectEmptiesOut();
        framesOfWhatIsSent();
        lostToOneThatIsNotThere();
        laterAnswersGoAhead();
        asyncNumbersFrom1();
        sixteenWait();
        theSeventeenthLock();
        theSeventeenthBreaksLevelTwo();
        notTheLastNeverWaits();
        relatedSessionAndTree();
        relatedToWhatWasRefused();
        relatedFileOfCreate();
        relatedFileOfOthers();
        relatedFileThatIsNone();
        relatedFileIsOfTheOneBefore();
        Check.end("AnswerEdgeTest");
    }

    /** "STATUS, COMMAND, CHARGE as asked, .. ID, PROCESS, TREE, SESSION as asked (..), the 16 bytes 0". */
    private static void headerAsAsked() {
        Peer p = Peer.bare(new Wire(), 0);
        p.session = 0x8877665544332211L;
        p.tree = 0xDDCCBBAAL;
        Answer a = p.ask(Peer.echo().put(6, 2, 0xFEDC).put(8, 4, -1L).put(32, 4, 0xFFEEDDCCL).flags(0xFFFFFFF8L));
        Check.eq("CHARGE", a.n(6, 2), 0xFEDC);
        Check.eq("STATUS", a.n(8, 4), 0);
        Check.eq("COMMAND", a.n(12, 2), 13);
        Check.eq("FLAGS 1 alone", a.flags(), 1);
        Check.eq("NEXT", a.n(20, 4), 0);
        Check.eq("ID", a.id(), p.nextId - 1);
        Check.eq("PROCESS", a.n(32, 4), 0xFFEEDDCCL);
        Check.eq("TREE", a.tree(), 0xDDCCBBAAL);
        Check.eq("SESSION", a.session(), 0x8877665544332211L);
        Check.eq("16 bytes", a.n(48, 8) | a.n(56, 8), 0);
        Answer none = p.ask(new Req(0x9ABC));
        Check.eq("COMMAND that is none", none.n(12, 2), 0x9ABC);
        Check.eq("its SESSION", none.session(), p.session);
    }

    /** "where STATUS is neither OK nor told otherwise the body is 9 (2), 0 (2), 0 (4), 0 (1)". */
    private static void errorBodies() {
        Peer p = Peer.fresh();
        p.open("f");
        p.ask(Peer.lock(1, 0, 1, 2));
        Req[] refused = {new Req(11), Peer.read(9, 0, 1), Peer.tree("x"), Peer.create("a*", ALL, 7, 3, 0, 0),
            Peer.read(1, 0, 1), Peer.lock(1, 0, 1, 2), Peer.setSize(1, 5000), Peer.answerBreak(1, 0),
            Peer.lock(1, 0, 1, 4, 0, 1, 4), Peer.info(1, 1, 18, 79)};
        for (Req r : refused) {
            Answer a = p.ask(r);
            Check.eq("length " + r.n(12, 2), a.length(), 73);
            Check.eq("9 " + r.n(12, 2), a.n(64, 8), 9);
            Check.eq("the last " + r.n(12, 2), a.n(72, 1), 0);
        }
    }

    /** "each but the last one filled with 0s until 8 divides it, NEXT telling that (0 of the last)". */
    private static void filledUntil8Divides() {
        Peer p = Peer.fresh();
        p.open("f");
        p.ask(Peer.write(1, 0, "~".repeat(20)));
        p.askAll(Peer.read(1, 0, 20), Peer.read(1, 0, 20));
        for (int many = 0; many <= 9; many++) {
            List<Answer> all = p.askAll(Peer.read(1, 0, many), Peer.read(1, 0, many));
            int whole = 80 + Math.max(1, many);
            int filled = (whole + 7) / 8 * 8;
            Check.eq("filled " + many, all.get(0).length(), filled);
            Check.eq("NEXT " + many, all.get(0).n(20, 4), filled);
            Check.eq("0s " + many, all.get(0).n(80 + many, filled - 80 - many), 0);
            Check.eq("not filled " + many, all.get(1).length(), whole);
            Check.eq("NEXT of the last " + many, all.get(1).n(20, 4), 0);
        }
    }

    /** "CANCEL has no answer (nor has a message of CANCELS alone)". */
    private static void cancelHasNoAnswer() {
        Peer p = Peer.bare(new Wire(), 0);
        Check.eq("alone", p.wire.send(0, Peer.cancel()), 1);
        Check.eq("three", p.wire.send(0, Peer.cancel(), Peer.cancel(), Peer.cancel()), 1);
        Check.eq("wrong ones", p.wire.send(0, new Req(12), Peer.cancel().put(64, 2, 5)), 1);
        Check.eq("nothing was answered", p.wire.house.outs(0), 0);
        p.wire.send(0, Peer.cancel(), p.mine(Peer.echo()), Peer.cancel(), p.mine(Peer.echo()), Peer.cancel());
        List<Answer> all = p.wire.answers(0);
        Check.eq("the two others", all.size(), 2);
        Check.eq("the first", all.get(0).id(), p.nextId - 2);
        Check.eq("filled", all.get(0).length(), 72);
        Check.eq("the last", all.get(1).length(), 68);
    }

    /** A house whose connection 0 has 15512 bytes in its OUT, and 488 of room. */
    private static Peer nearlyFull() {
        Peer p = Peer.fresh();
        p.open("f");
        p.ask(Peer.setSize(1, 1024));
        for (int i = 0; i < 14; i++) {
            p.wire.send(0, p.mine(Peer.read(1, 0, 1024)));
        }
        Check.eq("OUT", p.wire.house.outs(0), 14 * 1108);
        return p;
    }

    /** "What has no room in a connection's OUT (16000 bytes) is lost". */
    private static void outHas16000() {
        Peer p = nearlyFull();
        p.wire.send(0, p.mine(Peer.read(1, 0, 405)));
        Check.eq("one byte too many", p.wire.house.outs(0), 14 * 1108);
        p.wire.send(0, p.mine(Peer.read(1, 0, 404)));
        Check.eq("just room", p.wire.house.outs(0), 16000);
        Check.eq("the last byte", p.wire.house.out(0, 15999), 0);
        Check.eq("none behind it", p.wire.house.out(0, 16000), -1);
    }

    private static void outIsFull() {
        Peer p = nearlyFull();
        p.wire.send(0, p.mine(Peer.read(1, 0, 404)));
        p.wire.send(0, p.mine(Peer.echo()));
        Check.eq("no room for ECHO", p.wire.house.outs(0), 16000);
        Check.eq("drop", p.wire.house.drop(0), 16000);
        p.wire.send(0, p.mine(Peer.echo()));
        Check.eq("room again", p.wire.house.outs(0), 72);
        Check.eq("it begins anew", p.wire.house.out(0, 4), 254);
    }

    private static void whatIsLostIsDoneAllTheSame() {
        Peer p = nearlyFull();
        p.wire.send(0, p.mine(Peer.read(1, 0, 404)));
        p.wire.send(0, p.mine(Peer.create("g", ALL, 7, 3, 0, 0)));
        Check.eq("made", p.wire.house.told(2), 3);
        Check.eq("open", p.wire.house.told(3), 2);
        p.wire.house.drop(0);
        Check.eq("its ID was granted", p.status(Peer.read(2, 0, 0)), Status.OK);
    }

    /** What is lost of one connection goes to others all the same. */
    private static void breaksAreLostToo() {
        Peer p = nearlyFull();
        Peer q = Peer.on(p.wire, 1);
        p.wire.send(0, p.mine(Peer.create("h", ALL, 7, 3, 0, 9)));
        p.wire.send(0, p.mine(Peer.read(1, 0, 404 - 156)));
        Check.eq("full", p.wire.house.outs(0), 16000);
        Check.eq("waits", q.status(Peer.create("h", ALL, 7, 1, 0, 0)), Status.PENDING);
        Check.eq("its BREAK is lost", p.wire.house.drop(0), 16000);
        Check.eq("but it is BROKEN", p.status(Peer.answerBreak(2, 1)), Status.OK);
        Check.eq("and answered", q.news().get(0).status(), Status.OK);
    }

    /** "connect() empties it". */
    private static void connectEmptiesOut() {
        Peer p = Peer.bare(new Wire(), 2);
        p.wire.send(2, p.mine(Peer.echo()));
        Check.not("it is there: nothing changes", p.wire.house.connect(2));
        Check.eq("OUT stays", p.wire.house.outs(2), 72);
        p.wire.house.hang(2);
        Check.eq("when it is not there any more, too", p.wire.house.outs(2), 72);
        Check.is("connect", p.wire.house.connect(2));
        Check.eq("empty", p.wire.house.outs(2), 0);
        Check.eq("no byte", p.wire.house.out(2, 0), -1);
    }

    /** "each is sent as MESSAGES come, behind a byte 0 and its length", whatever stood in the OUT before. */
    private static void framesOfWhatIsSent() {
        Peer p = Peer.fresh();
        p.open("f");
        p.ask(Peer.write(1, 0, "~".repeat(1024)));
        p.wire.send(0, p.mine(Peer.read(1, 0, 1024)), p.mine(Peer.read(1, 0, 1024)));
        Check.eq("a length of more than one byte", p.wire.house.out(0, 2), (80 + 1024 + 1104) / 256);
        Check.eq("its lowest byte", p.wire.house.out(0, 3), (80 + 1024 + 1104) % 256);
        p.wire.house.drop(0);
        for (int i = 0; i < 3; i++) {
            p.wire.send(0, p.mine(Peer.echo()));
        }
        for (int at = 0; at < 216; at += 72) {
            Check.eq("a byte 0", p.wire.house.out(0, at), 0);
            Check.eq("the highest byte", p.wire.house.out(0, at + 1), 0);
            Check.eq("the middle one", p.wire.house.out(0, at + 2), 0);
            Check.eq("the lowest", p.wire.house.out(0, at + 3), 68);
        }
    }

    /** "and so is what is sent to one that is not there any more (its sessions ending)". */
    private static void lostToOneThatIsNotThere() {
        Peer[] p = two();
        p[0].open("f", 9);
        p[0].open("g", 9);
        Check.eq("waits", p[1].status(Peer.shortCreate("f", ALL, 7, 1, 0, 0)), Status.PENDING);
        p[0].ask(Peer.rename(1, 0, "x"));
        p[0].ask(Peer.rename(2, 0, "f"));
        p[0].wire.send(0, p[0].mine(Peer.echo()));
        // f is the second open's file by now: that is BROKEN while the session ends, before it is closed, too
        p[0].wire.house.hang(0);
        Check.eq("no BREAK came", p[0].wire.house.outs(0), 72);
        Check.eq("opened", p[1].news().get(0).status(), Status.OK);
        Check.eq("none waits", p[0].wire.house.told(5), 0);
    }

    /** "Messages of their own, which go at once (ahead of the answers of a message that is not done)". */
    private static void laterAnswersGoAhead() {
        Peer p = Peer.fresh();
        p.open("f");
        p.open("f");
        p.ask(Peer.lock(1, 0, 1, 2));
        p.ask(Peer.lock(2, 0, 1, 2));
        p.notes.clear();
        List<Answer> all = p.askAll(Peer.echo(), Peer.lock(1, 0, 1, 4), Peer.echo());
        Check.eq("one message ahead", p.notes.size(), 1);
        Check.eq("the later answer", p.notes.get(0).command(), 10);
        Check.eq("NEXT of it", p.notes.get(0).n(20, 4), 0);
        Check.eq("then three answers", all.size(), 3);
    }

    private static Peer[] two() {
        Wire w = new Wire();
        w.share(0, "DATA");
        return new Peer[] {Peer.on(w, 0), Peer.on(w, 1)};
    }

    /** "with the next ASYNC number of the house from 1 on". */
    private static void asyncNumbersFrom1() {
        Peer[] p = two();
        p[0].open("f");
        p[1].open("f");
        p[0].ask(Peer.lock(1, 0, 1, 2));
        Check.eq("1", p[0].ask(Peer.lock(1, 0, 1, 2)).async(), 1);
        Check.eq("2, of another connection", p[1].ask(Peer.lock(2, 0, 1, 2)).async(), 2);
        Answer a = p[0].ask(Peer.lock(1, 0, 1, 2).put(32, 4, 0xFFFFFFFFL).put(36, 4, p[0].tree));
        Check.eq("3 in place of PROCESS and TREE", a.async(), 3);
        Check.eq("FLAGS", a.flags(), 3);
        Check.eq("STATUS", a.status(), Status.PENDING);
        Check.eq("error body", a.length(), 73);
        Check.eq("SESSION", a.session(), p[0].session);
    }

    /** "16 WAIT at most (RESOURCES in its stead; ..)". */
    private static void sixteenWait() {
        Peer[] p = two();
        p[0].open("f", 9);
        p[0].open("g", 8);
        for (int i = 1; i <= 16; i++) {
            Check.eq("PENDING", p[1].status(Peer.shortCreate("f", ALL, 7, 1, 0, 0)), Status.PENDING);
        }
        p[0].news();
        Check.eq("16", p[0].wire.house.told(5), 16);
        Answer a = p[1].ask(Peer.shortCreate("g", ALL, 7, 1, 0, 0));
        Check.eq("the 17th", a.status(), Status.RESOURCES);
        Check.eq("it is not ASYNC", a.flags(), 1);
        Check.eq("its TREE", a.tree(), p[1].tree);
        Check.eq("16 still", p[0].wire.house.told(5), 16);
        List<Answer> news = p[0].news();
        Check.eq("what was BROKEN for it is", news.size(), 1);
        Check.eq("g", news.get(0).n(72, 8), 2);
        Check.eq("a CREATE of f, already BROKEN", p[1].status(Peer.shortCreate("f", ALL, 7, 1, 0, 0)), Status.RESOURCES);
        Check.eq("not the last: SHARING",
                p[1].askAll(Peer.shortCreate("f", ALL, 7, 1, 0, 0), Peer.echo()).get(0).status(), Status.SHARING);
    }

    private static void theSeventeenthLock() {
        Peer[] p = two();
        p[0].open("f");
        p[0].ask(Peer.lock(1, 0, 1, 2));
        for (int i = 1; i <= 16; i++) {
            Check.eq("PENDING", p[0].status(Peer.lock(1, 0, 1, 2)), Status.PENDING);
        }
        Check.eq("the 17th", p[0].status(Peer.lock(1, 0, 1, 2)), Status.RESOURCES);
        Check.eq("AT ONCE", p[0].status(Peer.lock(1, 0, 1, 0x12)), Status.LOCK_NOT_GRANTED);
        Check.eq("one that can be", p[0].status(Peer.lock(1, 5, 1, 2)), Status.OK);
        p[0].wire.send(0, Peer.cancel().flags(2).put(32, 8, 3));
        p[0].news();
        Check.eq("15", p[0].wire.house.told(5), 15);
        Answer a = p[0].ask(Peer.lock(1, 0, 1, 2));
        Check.eq("room for one", a.status(), Status.PENDING);
        Check.eq("the next number", a.async(), 17);
    }

    /** "what was BROKEN for it, a LEVEL II too, is". */
    private static void theSeventeenthBreaksLevelTwo() {
        Peer[] p = two();
        p[0].open("f");
        p[0].ask(Peer.lock(1, 0, 1, 2));
        for (int i = 1; i <= 16; i++) {
            p[0].ask(Peer.lock(1, 0, 1, 2));
        }
        // g has a lock and LEVEL II: EXCLUSIVE alone takes a lock, and is answered with LEVEL II
        p[1].open("g", 8);
        p[1].ask(Peer.lock(2, 0, 1, 2));
        Check.eq("g is BROKEN", p[1].status(Peer.create("g", ALL, 7, 1, 0, 0)), Status.RESOURCES);
        Check.eq("LEVEL II", p[1].status(Peer.answerBreak(2, 1)), Status.OK);
        Check.eq("opened", p[0].ask(Peer.create("g", ALL, 7, 1, 0, 0)).n(128, 8), 3);
        Answer a = p[0].ask(Peer.lock(3, 0, 1, 2));
        Check.eq("the 17th", a.status(), Status.RESOURCES);
        List<Answer> news = p[1].news();
        Check.eq("LEVEL II is broken", news.size(), 1);
        Check.eq("of g", news.get(0).n(72, 8), 2);
        Check.eq("to 0", news.get(0).n(66, 1), 0);
    }

    /** "One that is not the last of its message never WAITS (see there)". */
    private static void notTheLastNeverWaits() {
        Peer[] p = two();
        p[0].open("f", 9);
        p[1].open("g");
        p[1].ask(Peer.lock(2, 0, 1, 2));
        List<Answer> all = p[1].askAll(Peer.shortCreate("f", ALL, 7, 1, 0, 0), Peer.lock(2, 0, 1, 2), Peer.cancel().id(9),
                Peer.lock(2, 0, 1, 2));
        Check.eq("CREATE", all.get(0).status(), Status.SHARING);
        Check.eq("LOCK", all.get(1).status(), Status.LOCK_NOT_GRANTED);
        Check.eq("the last one", all.get(2).status(), Status.PENDING);
        Check.eq("one waits", p[0].wire.house.told(5), 1);
        all = p[1].askAll(Peer.lock(2, 0, 1, 2), Peer.cancel());
        Check.eq("a CANCEL behind it", all.get(0).status(), Status.LOCK_NOT_GRANTED);
    }

    /** "SESSION and TREE are those of the REQUEST before in the message (..), also in the answer". */
    private static void relatedSessionAndTree() {
        Wire w = new Wire();
        w.share(0, "DATA");
        Peer p = Peer.bare(w, 0);
        p.session = 77;
        p.tree = 88;
        List<Answer> all = p.askAll(Peer.setUp("u", 0), Peer.tree("DATA").related(), Peer.echo().related(),
                Peer.shortCreate("f", ALL, 7, 3, 0, 0).related(), Peer.shortCreate("f", ALL, 7, 3, 0, 0));
        Check.eq("SESSION_SETUP: the new one", all.get(0).session(), 1);
        Check.eq("its TREE as asked", all.get(0).tree(), 88);
        Check.eq("TREE_CONNECT: SESSION", all.get(1).session(), 1);
        Check.eq("the new TREE", all.get(1).tree(), 1);
        Check.eq("ECHO: SESSION", all.get(2).session(), 1);
        Check.eq("ECHO: TREE", all.get(2).tree(), 1);
        Check.eq("CREATE", all.get(3).status(), Status.OK);
        Check.eq("CREATE: TREE", all.get(3).tree(), 1);
        Check.eq("FLAGS RELATED", all.get(3).flags(), 5);
        Check.eq("one that is not RELATED", all.get(4).status(), Status.SESSION_GONE);
        Check.eq("as asked", all.get(4).session(), 77);
        Check.eq("FLAGS", all.get(4).flags(), 1);
    }

    /** "of SESSION_SETUP, TREE_CONNECT the new ones, if there are". */
    private static void relatedToWhatWasRefused() {
        Peer p = Peer.fresh();
        List<Answer> all = p.askAll(Peer.tree("NONE"), Peer.shortCreate("f", ALL, 7, 3, 0, 0).related());
        Check.eq("BAD_SHARE", all.get(0).status(), Status.BAD_SHARE);
        Check.eq("the TREE that was asked", all.get(1).status(), Status.OK);
        all = p.askAll(Peer.setUp("", 0), Peer.shortCreate("f", ALL, 7, 3, 0, 0).related());
        Check.eq("the SESSION that was asked", all.get(1).status(), Status.OK);
        all = p.askAll(Peer.treeOff(), Peer.shortCreate("f", ALL, 7, 3, 0, 0).related(), Peer.tree("DATA").related());
        Check.eq("the tree is none any more", all.get(1).status(), Status.TREE_GONE);
        Check.eq("the session is", all.get(2).status(), Status.OK);
        all = p.askAll(Peer.logOff(), Peer.tree("DATA").related());
        Check.eq("the session is not, either", all.get(1).status(), Status.SESSION_GONE);
    }

    /** "where the FILE is all 255s, it is that of the one before (of CREATE the one it opened; ..)". */
    private static void relatedFileOfCreate() {
        Peer p = Peer.fresh();
        List<Answer> all = p.askAll(Peer.shortCreate("f", ALL, 7, 3, 0, 0), Peer.write(Peer.BEFORE, 0, "ab").related(),
                Peer.read(Peer.BEFORE, 1, 1).related(), Peer.info(Peer.BEFORE, 1, 18, 80).related(),
                Peer.lock(Peer.BEFORE, 0, 1, 0x12).related(), Peer.setSize(Peer.BEFORE, 1).related(),
                Peer.flush(Peer.BEFORE).related(), Peer.close(Peer.BEFORE).related());
        for (Answer a : all) {
            Check.eq("OK " + a.command(), a.status(), Status.OK);
        }
        Check.eq("closed", p.wire.house.told(3), 0);
        all = p.askAll(Peer.create("", ALL, 7, 1, 0, 0), Peer.list(Peer.BEFORE, 12, 0, "", 100).related(),
                Peer.answerBreak(Peer.BEFORE, 0).related());
        Check.eq("listed", all.get(1).status(), Status.OK);
        Check.eq("looked at", all.get(2).status(), Status.OPLOCK_PROTOCOL);
    }

    /** "of others what they told, if it was looked at, whatever came of it". */
    private static void relatedFileOfOthers() {
        Peer p = Peer.fresh();
        p.open("f");
        p.open("g");
        Req[] looked = {Peer.read(1, 0, 9999), Peer.read(1, 99, 1), Peer.write(1, 9999, "x"), Peer.lock(1, 0, 1, 77),
            Peer.info(1, 9, 9, 0), Peer.setToGo(1, 0), Peer.answerBreak(1, 0), Peer.flush(1)};
        for (Req r : looked) {
            List<Answer> all = p.askAll(r, Peer.info(Peer.BEFORE, 1, 18, 80).related());
            Check.eq("NUMBER behind " + r.n(12, 2), all.get(1).n(136, 8), 1);
        }
        List<Answer> all = p.askAll(Peer.read(2, 0, 0), Peer.read(1, 0, 0).related(), Peer.info(-1, 1, 18, 80).related());
        Check.eq("of the one just before", all.get(2).n(136, 8), 1);
        all = p.askAll(Peer.read(55, 0, 0), Peer.read(-1, 0, 0).related());
        Check.eq("one that is none was looked at", all.get(1).status(), Status.FILE_CLOSED);
        all = p.askAll(Peer.close(1), Peer.close(-1).related());
        Check.eq("closed by the one before", all.get(1).status(), Status.FILE_CLOSED);
    }

    /** "if there is none: INVALID_PARAMETER (in place of FILE_CLOSED)". */
    private static void relatedFileThatIsNone() {
        Peer p = Peer.fresh();
        p.open("f");
        Req[] without = {Peer.echo(), Peer.tree("DATA"), Peer.create("no", ALL, 7, 1, 0, 0), Peer.read(1, 0, 0).put(64, 2, 1),
            Peer.read(1, 0, 0).length(100), Peer.write(1, 0, "x").put(68, 4, 1025), new Req(11), Peer.setUp("u", 0)};
        for (Req r : without) {
            p.tree = 1;
            p.session = 1;
            Req next = Peer.read(Peer.BEFORE, 0, 0).related();
            List<Answer> all = p.askAll(r, next);
            int due = r.n(12, 2) == 1 ? Status.TREE_GONE : Status.INVALID_PARAMETER;
            Check.eq("behind " + r.n(12, 2), all.get(1).status(), due);
        }
        List<Answer> all = p.askAll(Peer.echo(), Peer.read(-1, 0, 0).put(88, 8, 1).related());
        Check.eq("not all 255s", all.get(1).status(), Status.FILE_CLOSED);
        all = p.askAll(Peer.echo(), Peer.read(-1, 0, 0).put(80, 1, 254).related());
        Check.eq("one of them is 254", all.get(1).status(), Status.FILE_CLOSED);
    }

    /** A request between that has no FILE, or one that was not looked at, leaves none. */
    private static void relatedFileIsOfTheOneBefore() {
        Peer p = Peer.fresh();
        p.open("f");
        List<Answer> all = p.askAll(Peer.read(1, 0, 0), Peer.echo().related(), Peer.read(-1, 0, 0).related());
        Check.eq("ECHO between", all.get(2).status(), Status.INVALID_PARAMETER);
        all = p.askAll(Peer.read(1, 0, 0), Peer.read(1, 0, 0).put(64, 2, 3).related(), Peer.read(-1, 0, 0).related());
        Check.eq("no body between", all.get(2).status(), Status.INVALID_PARAMETER);
        all = p.askAll(Peer.read(1, 0, 0), Peer.create("no", ALL, 7, 1, 0, 0).related(), Peer.read(-1, 0, 0).related());
        Check.eq("a CREATE that opened none", all.get(2).status(), Status.INVALID_PARAMETER);
        // the FILE of another message is not the one before
        p.ask(Peer.read(1, 0, 0));
        all = p.askAll(Peer.echo(), Peer.read(-1, 0, 0).related());
        Check.eq("another message", all.get(1).status(), Status.INVALID_PARAMETER);
        // one that is not RELATED tells its own
        all = p.askAll(Peer.read(1, 0, 0), Peer.read(-1, 0, 0));
        Check.eq("not RELATED", all.get(1).status(), Status.FILE_CLOSED);
    }
}
