import java.util.List;

/** Promise 7, part 6: locks of ranges, some of which wait. */
public final class LockTest {
    private static final int ALL = Peer.ALL;
    private static final int SHARED = 1;
    private static final int EXCLUSIVE = 2;
    private static final int UNLOCK = 4;
    private static final int AT_ONCE = 0x10;

    private LockTest() {
    }

    public static void main(String[] args) {
        parameters();
        kinds();
        ranges();
        allOrNone();
        unlocks();
        waiting();
        eldestFirst();
        notTheLast();
        closedWhileWaiting();
        sixtyLocks();
        roomForOneLock();
        readsAndWrites();
        sizes();
        Check.end("LockTest");
    }

    private static void parameters() {
        Peer p = Peer.fresh();
        long f = p.open("f");
        long d = p.openDirectory("d");
        long look = p.ask(Peer.create("f", 0x1F01F8, 7, 3, 0, 0)).n(128, 8);
        Answer a = p.ask(Peer.lock(f, 0, 1, EXCLUSIVE));
        Check.eq("OK", a.status(), 0);
        Check.eq("length", a.length(), 68);
        Check.eq("body", a.n(64, 4), 4);
        Check.eq("locks", p.wire.house.told(4), 1);
        Check.eq("none", p.status(Peer.lock(f).length(112)), Status.INVALID_PARAMETER);
        long[] nine = new long[27];
        for (int i = 0; i < 9; i++) {
            nine[3 * i] = 100 + i;
            nine[3 * i + 2] = SHARED | AT_ONCE;
        }
        Check.eq("nine", p.status(Peer.lock(f, nine)), Status.INVALID_PARAMETER);
        Check.eq("eight", p.status(Peer.lock(f, java.util.Arrays.copyOf(nine, 24))), Status.OK);
        Check.eq("not all there", p.status(Peer.lock(f, 5, 1, 0x12, 6, 1, 0x12).length(135)), Status.INVALID_PARAMETER);
        Check.eq("behind FILE", p.status(Peer.lock(99).length(112)), Status.FILE_CLOSED);
        Check.eq("a directory", p.status(Peer.lock(d, 0, 1, EXCLUSIVE)), Status.IS_A_DIRECTORY);
        Check.eq("a directory, behind how many", p.status(Peer.lock(d).length(112)), Status.INVALID_PARAMETER);
        Check.eq("without access", p.status(Peer.lock(look, 0, 1, 77)), Status.ACCESS_DENIED);
        int[] wrong = {0, 3, 5, 6, 7, 8, 0x10, 0x13, 0x14, 0x21, 0x80000001};
        for (int flags : wrong) {
            Check.eq("FLAGS " + flags, p.status(Peer.lock(f, 50, 1, flags & 0xFFFFFFFFL)), Status.INVALID_PARAMETER);
        }
        Check.eq("UNLOCK and others", p.status(Peer.lock(f, 0, 1, UNLOCK, 50, 1, 0x12)), Status.INVALID_PARAMETER);
        Check.eq("others and UNLOCK", p.status(Peer.lock(f, 50, 1, 0x12, 0, 1, UNLOCK)), Status.INVALID_PARAMETER);
        Check.eq("two, not AT ONCE", p.status(Peer.lock(f, 50, 1, 0x12, 60, 1, 2)), Status.INVALID_PARAMETER);
        Check.eq("two, not AT ONCE either", p.status(Peer.lock(f, 50, 1, 2, 60, 1, 0x12)), Status.INVALID_PARAMETER);
        Check.eq("above 2^64", p.status(Peer.lock(f, -1L, 2, 2)), Status.INVALID_PARAMETER);
        Check.eq("above 2^64 by both", p.status(Peer.lock(f, 1L << 63, (1L << 63) + 1, 2)), Status.INVALID_PARAMETER);
        Check.eq("UNLOCK above", p.status(Peer.lock(f, -1L, 2, UNLOCK)), Status.INVALID_PARAMETER);
        Check.eq("just 2^64", p.status(Peer.lock(f, -1L, 1, 2)), Status.OK);
        Check.eq("nothing was done by those", p.wire.house.told(4), 10);
    }

    private static void kinds() {
        int[][] due = {{1, 1, 1}, {1, 2, 0}, {2, 1, 0}, {2, 2, 0}};
        for (int[] x : due) {
            Peer p = Peer.fresh();
            long f = p.open("f");
            long g = p.open("f");
            for (long other : new long[] {f, g}) {
                Check.eq("the first", p.status(Peer.lock(f, 10, 10, x[0])), Status.OK);
                Check.eq("the second " + x[0] + x[1], p.status(Peer.lock(other, 19, 5, x[1] | AT_ONCE)),
                        x[2] == 1 ? Status.OK : Status.LOCK_NOT_GRANTED);
                Check.eq("beside it", p.status(Peer.lock(other, 20, 5, EXCLUSIVE | AT_ONCE)),
                        x[2] == 1 ? Status.LOCK_NOT_GRANTED : Status.OK);
                p.ask(Peer.lock(f, 10, 10, UNLOCK));
                p.ask(Peer.lock(other, 19, 5, UNLOCK));
                p.ask(Peer.lock(other, 20, 5, UNLOCK));
                Check.eq("none left", p.wire.house.told(4), 0);
            }
        }
        Peer p = Peer.fresh();
        long f = p.open("f");
        long h = p.open("h");
        p.ask(Peer.lock(f, 0, 10, 2));
        Check.eq("another file", p.status(Peer.lock(h, 0, 10, 0x12)), Status.OK);
    }

    private static void ranges() {
        Peer p = Peer.fresh();
        long f = p.open("f");
        Check.eq("all", p.status(Peer.lock(f, 0, -1L, 2)), Status.OK);
        Check.eq("the last one", p.status(Peer.lock(f, -1L, 1, 0x12)), Status.OK);
        Check.eq("the last but one", p.status(Peer.lock(f, -2L, 1, 0x12)), Status.LOCK_NOT_GRANTED);
        Check.eq("no bytes", p.status(Peer.lock(f, 5, 0, 0x12)), Status.OK);
        Check.eq("no bytes twice", p.status(Peer.lock(f, 5, 0, 0x12)), Status.OK);
        Check.eq("locks", p.wire.house.told(4), 4);
        p.ask(Peer.lock(f, 0, -1L, UNLOCK));
        Check.eq("over those without bytes", p.status(Peer.lock(f, 0, 100, 0x12)), Status.OK);
        Check.eq("high", p.status(Peer.lock(f, 1L << 63, 10, 0x12)), Status.OK);
        Check.eq("high, met", p.status(Peer.lock(f, (1L << 63) - 5, 6, 0x11)), Status.LOCK_NOT_GRANTED);
        Check.eq("high, not met", p.status(Peer.lock(f, (1L << 63) - 5, 5, 0x11)), Status.OK);
    }

    private static void allOrNone() {
        Peer p = Peer.fresh();
        long f = p.open("f");
        Check.eq("one of them", p.status(Peer.lock(f, 20, 1, 2)), Status.OK);
        Check.eq("the last can't be", p.status(Peer.lock(f, 0, 1, 0x12, 5, 1, 0x11, 20, 1, 0x11)),
                Status.LOCK_NOT_GRANTED);
        Check.eq("undone", p.wire.house.told(4), 1);
        Check.eq("they meet each other", p.status(Peer.lock(f, 0, 5, 0x12, 4, 1, 0x12)), Status.LOCK_NOT_GRANTED);
        Check.eq("undone, too", p.wire.house.told(4), 1);
        Check.eq("all", p.status(Peer.lock(f, 0, 5, 0x12, 5, 1, 0x12)), Status.OK);
        Check.eq("three", p.wire.house.told(4), 3);
    }

    private static void unlocks() {
        Peer p = Peer.fresh();
        long f = p.open("f");
        long g = p.open("f");
        p.ask(Peer.lock(f, 0, 5, 0x11, 0, 5, 0x11, 10, 5, 0x12));
        Check.eq("another open's", p.status(Peer.lock(g, 0, 5, UNLOCK)), Status.RANGE_NOT_LOCKED);
        Check.eq("not just that", p.status(Peer.lock(f, 0, 4, UNLOCK)), Status.RANGE_NOT_LOCKED);
        Check.eq("none went", p.wire.house.told(4), 3);
        Check.eq("those before are done", p.status(Peer.lock(f, 0, 5, UNLOCK, 1, 5, UNLOCK, 10, 5, UNLOCK)),
                Status.RANGE_NOT_LOCKED);
        Check.eq("one went", p.wire.house.told(4), 2);
        Check.eq("both", p.status(Peer.lock(f, 10, 5, UNLOCK, 0, 5, UNLOCK)), Status.OK);
        Check.eq("none left", p.wire.house.told(4), 0);
    }

    private static void waiting() {
        Wire w = new Wire();
        w.share(0, "DATA");
        Peer p = Peer.on(w, 0);
        Peer q = Peer.on(w, 1);
        long f = p.open("f");
        long g = q.open("f");
        p.ask(Peer.lock(f, 0, 10, 2));
        Answer a = q.ask(Peer.lock(g, 9, 1, SHARED));
        Check.eq("PENDING", a.status(), Status.PENDING);
        Check.eq("ASYNC", a.flags(), 3);
        Check.eq("number", a.async(), 1);
        Check.eq("length", a.length(), 73);
        Check.eq("AT ONCE", q.status(Peer.lock(g, 9, 1, 0x11)), Status.LOCK_NOT_GRANTED);
        Check.eq("RANGE_NOT_LOCKED, but one went", p.status(Peer.lock(f, 0, 10, UNLOCK, 7, 7, UNLOCK)),
                Status.RANGE_NOT_LOCKED);
        List<Answer> news = q.news();
        Check.eq("one", news.size(), 1);
        a = news.get(0);
        Check.eq("OK", a.status(), 0);
        Check.eq("COMMAND", a.command(), 10);
        Check.eq("later: ASYNC", a.flags(), 3);
        Check.eq("later: number", a.async(), 1);
        Check.eq("later: CREDITS", a.credits(), 0);
        Check.eq("later: length", a.length(), 68);
        Check.eq("later: body", a.n(64, 4), 4);
        Check.eq("locks", w.house.told(4), 1);
        Check.eq("waits", w.house.told(5), 0);
        // its own lock makes it wait, too; CANCEL
        Check.eq("own", q.status(Peer.lock(g, 0, -1L, 2)), Status.PENDING);
        w.send(1, Peer.cancel().id(q.nextId - 1));
        Check.eq("CANCELLED", q.news().get(0).status(), Status.CANCELLED);
        Check.eq("locks still", w.house.told(4), 1);
    }

    private static void eldestFirst() {
        Wire w = new Wire();
        w.share(0, "DATA");
        Peer p = Peer.on(w, 0);
        Peer q = Peer.on(w, 1);
        long f = p.open("f");
        long g = q.open("f");
        p.ask(Peer.lock(f, 0, 10, 2));
        Check.eq("1", q.status(Peer.lock(g, 0, 5, 2)), Status.PENDING);
        Check.eq("2", q.status(Peer.lock(g, 4, 2, 2)), Status.PENDING);
        Check.eq("3", q.status(Peer.lock(g, 6, 2, 2)), Status.PENDING);
        p.ask(Peer.close(f));
        List<Answer> news = q.news();
        Check.eq("two can be", news.size(), 2);
        Check.eq("the eldest", news.get(0).async(), 1);
        Check.eq("and the third", news.get(1).async(), 3);
        Check.eq("one waits on", w.house.told(5), 1);
        List<Answer> all = q.askAll(Peer.lock(g, 0, 5, UNLOCK));
        Check.eq("UNLOCK is answered", all.get(0).status(), 0);
        Check.eq("ahead of it the one that waited", q.notes.get(0).async(), 2);
    }

    private static void notTheLast() {
        Peer p = Peer.fresh();
        long f = p.open("f");
        p.ask(Peer.lock(f, 0, 10, 2));
        List<Answer> all = p.askAll(Peer.lock(f, 0, 1, 2), Peer.echo());
        Check.eq("does not wait", all.get(0).status(), Status.LOCK_NOT_GRANTED);
        all = p.askAll(Peer.echo(), Peer.lock(f, 0, 1, 2));
        Check.eq("waits", all.get(1).status(), Status.PENDING);
    }

    private static void closedWhileWaiting() {
        Peer p = Peer.fresh();
        long f = p.open("f");
        long g = p.open("f");
        p.ask(Peer.lock(f, 0, 10, 2));
        p.ask(Peer.lock(g, 0, 10, 2));
        p.ask(Peer.lock(f, 0, 10, 2));
        Check.eq("two wait", p.wire.house.told(5), 2);
        Check.eq("CLOSE", p.status(Peer.close(g)), Status.OK);
        Check.eq("given up", p.notes.size(), 1);
        Check.eq("as CANCELLED", p.notes.get(0).status(), Status.CANCELLED);
        Check.eq("CLOSE of both", p.status(Peer.close(f)), Status.OK);
        Check.eq("given up, too", p.notes.size(), 1);
        Check.eq("CANCELLED, too", p.notes.get(0).status(), Status.CANCELLED);
        Check.eq("no locks", p.wire.house.told(4), 0);
    }

    /** Two peers with an open each of one file; the first has 59 locks: of bytes 0 to 2, and 100 to 155. */
    private static Peer[] with59Locks() {
        Wire w = new Wire();
        w.share(0, "DATA");
        Peer[] p = {Peer.on(w, 0), Peer.on(w, 1)};
        p[0].open("f");
        p[1].open("f");
        for (int i = 0; i < 7; i++) {
            long[] eight = new long[24];
            for (int j = 0; j < 8; j++) {
                eight[3 * j] = 100 + 8 * i + j;
                eight[3 * j + 1] = 1;
                eight[3 * j + 2] = 0x12;
            }
            Check.eq("eight", p[0].status(Peer.lock(1, eight)), Status.OK);
        }
        Check.eq("three", p[0].status(Peer.lock(1, 0, 1, 0x12, 1, 1, 0x12, 2, 1, 0x12)), Status.OK);
        Check.eq("59", w.house.told(4), 59);
        return p;
    }

    private static void sixtyLocks() {
        Peer[] p = with59Locks();
        House h = p[0].wire.house;
        Check.eq("waits", p[1].status(Peer.lock(2, 0, 1, 2)), Status.PENDING);
        Check.eq("two more", p[0].status(Peer.lock(1, 3, 1, 0x12, 4, 1, 0x12)), Status.RESOURCES);
        Check.eq("none of them", h.told(4), 59);
        Check.eq("one more", p[0].status(Peer.lock(1, 3, 1, 2)), Status.OK);
        Check.eq("60", h.told(4), 60);
        Check.eq("the 61st", p[1].status(Peer.lock(2, 0, 1, 2)), Status.RESOURCES);
        Check.eq("of another place, too", p[1].status(Peer.lock(2, 500, 1, 0x11)), Status.RESOURCES);
        Check.eq("UNLOCK", p[0].status(Peer.lock(1, 0, 1, UNLOCK)), Status.OK);
        Check.eq("the one that waited", p[1].news().get(0).status(), 0);
        Check.eq("60 again", h.told(4), 60);
    }

    /** Two that could be, and room for one. */
    private static void roomForOneLock() {
        Peer[] p = with59Locks();
        House h = p[0].wire.house;
        Check.eq("waits", p[1].status(Peer.lock(2, 1, 1, SHARED)), Status.PENDING);
        Check.eq("waits, too", p[1].status(Peer.lock(2, 1, 1, SHARED)), Status.PENDING);
        Check.eq("one more", p[0].status(Peer.lock(1, 3, 1, 2)), Status.OK);
        Check.eq("UNLOCK", p[0].status(Peer.lock(1, 1, 1, UNLOCK)), Status.OK);
        Check.eq("one of them", p[1].news().size(), 1);
        Check.eq("60", h.told(4), 60);
        Check.eq("the other waits on", h.told(5), 1);
        Check.eq("another goes", p[0].status(Peer.lock(1, 3, 1, UNLOCK)), Status.OK);
        Check.eq("the other one", p[1].news().size(), 1);
    }

    private static void readsAndWrites() {
        Peer p = Peer.fresh();
        long f = p.open("f");
        long g = p.open("f");
        p.ask(Peer.write(f, 0, "0123456789"));
        p.ask(Peer.lock(f, 6, 2, SHARED));
        p.ask(Peer.lock(f, 2, 2, EXCLUSIVE));
        Check.eq("READ of another, EXCLUSIVE", p.status(Peer.read(g, 0, 3)), Status.LOCK_CONFLICT);
        Check.eq("READ beside it", p.status(Peer.read(g, 0, 2)), Status.OK);
        Check.eq("READ behind it", p.status(Peer.read(g, 4, 6)), Status.OK);
        Check.eq("READ of none", p.status(Peer.read(g, 3, 0)), Status.OK);
        Check.eq("its own", p.status(Peer.read(f, 0, 10)), Status.OK);
        Check.eq("WRITE of another, SHARED", p.status(Peer.write(g, 7, "x")), Status.LOCK_CONFLICT);
        Check.eq("WRITE of another, EXCLUSIVE", p.status(Peer.write(g, 3, "x")), Status.LOCK_CONFLICT);
        Check.eq("WRITE of its own SHARED", p.status(Peer.write(f, 7, "x")), Status.LOCK_CONFLICT);
        Check.eq("WRITE of its own EXCLUSIVE", p.status(Peer.write(f, 2, "xx")), Status.OK);
        Check.eq("WRITE beside", p.status(Peer.write(g, 4, "xx")), Status.OK);
        Check.eq("WRITE of none", p.status(Peer.write(g, 3, "")), Status.OK);
        p.ask(Peer.lock(f, 5000, 10, EXCLUSIVE));
        Check.eq("LOCK_CONFLICT is ahead of DISK_FULL", p.status(Peer.write(g, 5000, "x")), Status.LOCK_CONFLICT);
        Check.eq("and of END_OF_FILE", p.status(Peer.read(g, 5000, 1)), Status.LOCK_CONFLICT);
        p.ask(Peer.lock(f, -1L, 1, EXCLUSIVE));
        Check.eq("at the end of all numbers", p.status(Peer.read(g, -5L, 1000)), Status.LOCK_CONFLICT);
        Check.eq("not around it", p.status(Peer.read(g, 0, 1)), Status.OK);
    }

    private static void sizes() {
        Peer p = Peer.fresh();
        long f = p.open("f");
        long g = p.open("f");
        p.ask(Peer.write(f, 0, "0123456789"));
        p.ask(Peer.lock(f, 8, 1, SHARED));
        Check.eq("cut off", p.status(Peer.setSize(g, 8)), Status.LOCK_CONFLICT);
        Check.eq("less", p.status(Peer.setSize(g, 9)), Status.OK);
        Check.eq("its own", p.status(Peer.setSize(f, 0)), Status.OK);
        Check.eq("grown over it", p.status(Peer.setSize(g, 9)), Status.LOCK_CONFLICT);
        Check.eq("up to it", p.status(Peer.setSize(g, 8)), Status.OK);
        Check.eq("the same size", p.status(Peer.setSize(g, 8)), Status.OK);
    }
}
