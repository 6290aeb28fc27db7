/** Promises 1 to 3, 5, 6, 8, 9 and 11 to 14 without messages. */
public final class FaceTest {
    private FaceTest() {
    }

    public static void main(String[] args) {
        aNewObject();
        theTape();
        shares();
        connections();
        numbersOutOfPlace();
        Check.end("FaceTest");
    }

    private static void aNewObject() {
        ShareHouse h = new ShareHouse();
        Check.eq("NONE", ShareHouse.NONE, -1);
        for (int what = 0; what <= 8; what++) {
            Check.eq("told of a new one " + what, h.told(what), 0);
        }
        for (int c = 0; c < 6; c++) {
            Check.not("isOpen of a new one", h.isOpen(c));
            Check.eq("outs of a new one", h.outs(c), 0);
            Check.eq("out of a new one", h.out(c, 0), -1);
            Check.eq("drop of a new one", h.drop(c), 0);
            Check.not("hang of a new one", h.hang(c));
            Check.eq("come of a new one", h.come(c), -1);
        }
        Check.eq("crash of a new one", h.crash(0), 0);
        Check.eq("crash of more than wait", h.crash(1), -1);
    }

    private static void theTape() {
        ShareHouse h = new ShareHouse();
        Check.eq("cut of nothing", h.cut(0), 0);
        Check.eq("cut of more", h.cut(1), -1);
        for (int i = 1; i <= 400; i++) {
            Check.eq("feed", h.feed(1, 2, 3, 4, 5), 20 * i);
        }
        Check.eq("feed above 8000", h.feed(1, 2, 3, 4, 5), -1);
        Check.eq("cut below 0", h.cut(-1), -1);
        Check.eq("cut above", h.cut(8001), -1);
        Check.eq("cut all stays", h.cut(8000), 0);
        Check.eq("cut", h.cut(7981), 19);
        Check.eq("feed above 8000 by one", h.feed(0, 0, 0, 0, 0), -1);
        Check.eq("cut again", h.cut(7980), 1);
        Check.eq("feed to 8000", h.feed(0, 0, 0, 0, 0), 8000);
        Check.not("share that is none reads the tape", h.share(9));
        Check.eq("it is used up", h.feed(0, 0, 0, 0, 0), 20);
        Check.eq("come that is none reads the tape", h.come(7), -1);
        Check.eq("it is used up, too", h.cut(1), -1);
    }

    private static void shares() {
        Wire w = new Wire();
        Check.not("share -1", w.share(-1, "A"));
        Check.not("share 4", w.share(4, "A"));
        Check.not("no name", w.share(0, ""));
        Check.not("13 units", w.share(0, "ABCDEFGHIJKLM"));
        Check.not("a \\", w.share(0, "A\\B"));
        Check.not("a space", w.share(0, "A B"));
        Check.not("127", w.share(0, "A\u007f"));
        Check.eq("no nodes yet", w.house.told(2), 0);
        Check.is("share 0", w.share(0, "Pub!:*?"));
        Check.not("told already", w.share(0, "OTHER"));
        Check.not("another has it", w.share(1, "pUB!:*?"));
        Check.is("share 1", w.share(1, "ABCDEFGHIJKL"));
        Check.is("share 3", w.share(3, "~"));
        Check.eq("nodes", w.house.told(2), 3);
        Check.eq("nodes on the disk", w.house.told(8), 3);
        Check.eq("nothing waits", w.house.told(1), 0);
        Check.eq("crash", w.house.crash(0), 0);
        Check.eq("roots stay", w.house.told(2), 3);
        Check.not("and names", w.share(2, "~"));
        Check.is("share 2", w.share(2, "}"));
        Check.eq("nodes at last", w.house.told(2), 4);
    }

    private static void connections() {
        ShareHouse h = new ShareHouse();
        Check.not("connect -1", h.connect(-1));
        Check.not("connect 6", h.connect(6));
        Check.is("connect 5", h.connect(5));
        Check.not("connect again", h.connect(5));
        Check.is("isOpen", h.isOpen(5));
        Check.not("hang -1", h.hang(-1));
        Check.not("hang 6", h.hang(6));
        Check.not("hang another", h.hang(0));
        Check.is("hang", h.hang(5));
        Check.not("hang again", h.hang(5));
        Check.not("isOpen after hang", h.isOpen(5));
        Check.is("connect anew", h.connect(5));
        h.crash(0);
        Check.not("isOpen after a crash", h.isOpen(5));
    }

    private static void numbersOutOfPlace() {
        ShareHouse h = new ShareHouse();
        int[] odd = {-1, 6, 7, Integer.MIN_VALUE, Integer.MAX_VALUE};
        for (int c : odd) {
            Check.eq("outs " + c, h.outs(c), -1);
            Check.eq("out " + c, h.out(c, 0), -1);
            Check.eq("drop " + c, h.drop(c), -1);
            Check.eq("come " + c, h.come(c), -1);
            Check.not("isOpen " + c, h.isOpen(c));
            Check.not("hang " + c, h.hang(c));
            Check.not("connect " + c, h.connect(c));
        }
        Check.eq("told -1", h.told(-1), -1);
        Check.eq("told 9", h.told(9), -1);
        Check.not("tick -1", h.tick(-1));
        Check.not("tick above", h.tick(1000001));
        Check.eq("NOW stays", h.told(0), 0);
        Check.is("tick 0", h.tick(0));
        Check.is("tick most", h.tick(1000000));
        Check.is("tick", h.tick(5));
        Check.eq("NOW", h.told(0), 1000005);
        Check.eq("crash -1", h.crash(-1), -1);
        Check.eq("crash", h.crash(0), 0);
        Check.eq("NOW stays over a crash", h.told(0), 1000005);
    }
}
