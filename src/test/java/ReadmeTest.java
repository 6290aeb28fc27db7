/** The example of README.md, with the answers that it tells. */
public final class ReadmeTest {
    private ReadmeTest() {
    }

    public static void main(String[] args) {
        ShareHouse house = new ShareHouse();
        Check.eq("a name comes", house.feed(0x44415441, 0, 0, 0, 0), 20);
        Check.eq("its 0s go", house.cut(4), 16);
        Check.is("share 0", house.share(0));
        Check.is("connection 0", house.connect(0));
        Check.eq("the header comes", house.feed(0x00000066, 0xFE534D42, 0x40000000, 0, 0x0A00), 20);
        Check.eq("and goes on", house.feed(0, 0, 0, 0, 0), 40);
        Check.eq("and on", house.feed(0, 0, 0, 0, 0), 60);
        Check.eq("the body comes", house.feed(0, 0, 0x24000100, 0, 0), 80);
        Check.eq("and goes on", house.feed(0, 0, 0, 0, 0), 100);
        Check.eq("the dialect comes", house.feed(0, 0x02020000, 0, 0, 0), 120);
        Check.eq("what is too much goes", house.cut(106), 14);
        Check.eq("one message", house.come(0), 1);
        Check.eq("its answer", house.outs(0), 133);
        Check.eq("how long that is", house.out(0, 3), 129);
        Check.eq("STATUS", house.out(0, 4 + 8), 0);
        Check.eq("granted", house.out(0, 4 + 14), 10);
        Check.eq("drop", house.drop(0), 133);
        Check.eq("nothing is left", house.outs(0), 0);
        Check.end("ReadmeTest");
    }
}
