import java.util.Random;

/** All promises: runs of random calls and bytes, of which none may throw, or leave what the document allows. */
public final class RandomTest {
    private static final int RUNS = 400;
    private static final int STEPS = 120;
    private static final int[] MOST = {Integer.MAX_VALUE, 7, 80, 40, 60, 16, 8, 16, 80};
    private static final int[] COMMANDS = {1, 2, 3, 4, 5, 5, 5, 5, 5, 6, 7, 8, 9, 9, 10, 10, 10, 12, 13, 14, 14, 16, 17, 17,
        17, 18, 18, 11, 19};
    private static final String[] PATHS = {"", "a", "b", "d", "d\\a", "d\\e", "d\\e\\x", "A", "*", "no\\x"};

    private RandomTest() {
    }

    public static void main(String[] args) {
        for (int i = 0; i < RUNS; i++) {
            Random r = new Random(i);
            Wire one = new Wire(House.withoutEnd());
            Wire two = new Wire(House.withoutEnd());
            for (Wire w : new Wire[] {one, two}) {
                w.share(0, "DATA");
            }
            for (int step = 0; step < STEPS; step++) {
                long seed = r.nextLong();
                int got = step(one, new Random(seed));
                Check.eq("the same calls, the same answers", step(two, new Random(seed)), got);
                looks(one);
            }
            for (int c = 0; c < 6; c++) {
                Check.is("the same bytes", java.util.Arrays.equals(one.house.bytes(c), two.house.bytes(c)));
                one.answers(c);
            }
        }
        Check.end("RandomTest");
    }

    private static void looks(Wire w) {
        for (int what = 0; what < MOST.length; what++) {
            int n = w.house.told(what);
            if (n < 0 || n > MOST[what]) {
                Check.eq("told " + what, n, MOST[what]);
            }
        }
        for (int c = 0; c < 6; c++) {
            if (w.house.outs(c) > 16000) {
                Check.eq("outs", w.house.outs(c), 16000);
            }
        }
    }

    private static int step(Wire w, Random r) {
        int c = r.nextInt(3);
        switch (r.nextInt(40)) {
            case 0: return w.house.hang(c) ? 1 : 0;
            case 1: return w.house.tick(r.nextInt(40)) ? 1 : 0;
            case 2: return r.nextInt(8) == 0 ? w.house.crash(r.nextInt(9) - 1) : 0;
            case 3: return w.house.drop(c);
            case 4: return w.share(r.nextInt(6) - 1, "S" + r.nextInt(5)) ? 1 : 0;
            case 5: return r.nextInt(4) == 0 ? w.come(c, noise(r)) : 0;
            default: break;
        }
        if (!w.house.isOpen(c)) {
            w.house.connect(c);
            w.send(c, Peer.negotiate().credits(16), Peer.setUp("u", 0).id(1).credits(16),
                    Peer.tree("DATA").id(2).related().credits(16));
        }
        int many = 1 + r.nextInt(3);
        Req[] all = new Req[many];
        for (int i = 0; i < many; i++) {
            all[i] = request(w, c, r, i > 0);
        }
        return w.send(c, all);
    }

    private static byte[] noise(Random r) {
        byte[] b = new byte[1 + r.nextInt(200)];
        r.nextBytes(b);
        b[0] = 0;
        return b;
    }

    /** IDS are tried from a small set: some cut the connection, which is part of the run. */
    private static Req request(Wire w, int c, Random r, boolean follows) {
        int command = COMMANDS[r.nextInt(COMMANDS.length)];
        String path = PATHS[r.nextInt(PATHS.length)];
        long file = follows && r.nextBoolean() ? -1L : 1 + r.nextInt(6);
        Req q = body(command, path, file, r);
        q.id(w.house.outs(c) % 97 < 90 ? lowestUnused(w, c) + r.nextInt(2) : r.nextInt(40));
        q.in(1 + r.nextInt(2), 1 + r.nextInt(2)).credits(r.nextInt(5));
        if (follows && r.nextInt(4) != 0) {
            q.related();
        }
        if (r.nextInt(30) == 0) {
            q.put(r.nextInt(q.size()), 1, r.nextInt(256));
        }
        return q;
    }

    /** The highest ID answered so far, and one. */
    private static long lowestUnused(Wire w, int c) {
        byte[] all = w.house.bytes(c);
        long highest = 2;
        int at = 0;
        while (at + 4 < all.length) {
            int size = (all[at + 1] & 255) << 16 | (all[at + 2] & 255) << 8 | all[at + 3] & 255;
            Answer a = new Answer(java.util.Arrays.copyOfRange(all, at + 4, at + 4 + size));
            if (a.id() >= 0) {
                highest = Math.max(highest, a.id());
            }
            at += 4 + size;
        }
        return highest + 1;
    }

    private static Req body(int command, String path, long file, Random r) {
        switch (command) {
            case 1: return Peer.setUp("u", r.nextInt(4));
            case 2: return Peer.logOff();
            case 3: return Peer.tree(r.nextInt(5) == 0 ? "NONE" : "DATA");
            case 4: return Peer.treeOff();
            case 5: return Peer.create(path, r.nextInt(4) == 0 ? r.nextInt() : Peer.ALL, r.nextInt(5) == 0 ? r.nextInt(9) : 7,
                    r.nextInt(6), r.nextInt(3) == 0 ? r.nextInt(2) | r.nextInt(2) << 12 | r.nextInt(2) << 6 : 0,
                    r.nextInt(10));
            case 6: return Peer.close(file).put(66, 2, r.nextInt(2));
            case 7: return Peer.flush(file);
            case 8: return Peer.read(file, place(r), r.nextInt(1030));
            case 9: return Peer.write(file, place(r), "bytes of it".substring(r.nextInt(11)));
            case 10: return Peer.lock(file, place(r), r.nextInt(20), new int[] {1, 2, 4, 0x11, 0x12, 7}[r.nextInt(6)]);
            case 12: return Peer.cancel();
            case 13: return Peer.echo();
            case 14: return Peer.list(file, r.nextBoolean() ? 1 : 12, r.nextInt(4), r.nextBoolean() ? "*" : "?", r.nextInt(1026));
            case 16: return Peer.info(file, 1 + r.nextInt(2), new int[] {3, 4, 5, 18}[r.nextInt(4)], r.nextInt(100));
            case 17: return set(file, path, r);
            case 18: return Peer.answerBreak(file, r.nextInt(3));
            default: return new Req(command);
        }
    }

    private static long place(Random r) {
        return r.nextInt(8) == 0 ? r.nextLong() : r.nextInt(r.nextBoolean() ? 20 : 4200);
    }

    private static Req set(long file, String path, Random r) {
        switch (r.nextInt(5)) {
            case 0: return Peer.setSize(file, place(r));
            case 1: return Peer.setToGo(file, r.nextInt(2));
            case 2: return Peer.setValues(file, r.nextInt(3), r.nextInt(3), r.nextInt(3), r.nextInt(3), r.nextInt(256));
            case 3: return Peer.set(file, r.nextInt(24), new byte[r.nextInt(50)]);
            default: return Peer.rename(file, r.nextInt(2), path);
        }
    }
}
