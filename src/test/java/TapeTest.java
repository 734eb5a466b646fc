/** Promises 2 (feed) and 3 (end). */
public final class TapeTest {
    private static final Due due = new Due();

    private static void feedGoesUpTo400() {
        AmphoraYard x = new AmphoraYard();
        for (int n = 1; n <= 20; n++) {
            due.is("feed " + n, x.feed(0, 0, 0, 0, 0), 20 * n);
        }
        due.is("feed over 400", x.feed(0, 0, 0, 0, 0), -1);
        due.is("end(401)", x.end(401), false);
        due.is("end(400): none came", x.end(400), true);
        due.is("end(381)", x.end(381), true);
        due.is("feed to 401", x.feed(0, 0, 0, 0, 0), -1);
        due.is("end(380)", x.end(380), true);
        due.is("feed to 400", x.feed(0, 0, 0, 0, 0), 400);
    }

    private static void endCuts() {
        AmphoraYard x = new AmphoraYard();
        due.is("end(0) of nothing", x.end(0), true);
        due.is("end(1) of nothing", x.end(1), false);
        due.is("feed", x.feed(1, 2, 3, 4, 5), 20);
        due.is("end(-1)", x.end(-1), false);
        due.is("end(least)", x.end(Integer.MIN_VALUE), false);
        due.is("end(greatest)", x.end(Integer.MAX_VALUE), false);
        due.is("end(21)", x.end(21), false);
        due.is("end(20)", x.end(20), true);
        due.is("end(7)", x.end(7), true);
        due.is("end(8)", x.end(8), false);
        due.is("feed behind 7", x.feed(0, 0, 0, 0, 0), 27);
    }

    private static void bytesComeHighestFirst() {
        AmphoraYard x = new AmphoraYard();
        // "jar " "1234" "5oil" "1mak" "er2y", then "ear3" "due4" and blanks
        x.feed(0x6A617220, 0x31323334, 0x356F696C, 0x316D616B, 0x65723279);
        x.feed(0x65617233, 0x64756534, 0x20202020, 0x20202020, 0x20202020);
        due.is("a text over two feeds", Due.outcome(() -> x.check(0)), "1");
        // the highest bit of a byte is no matter of blanks, letters or digits
        x.feed(0xEA617220, 0, 0, 0, 0);
        due.argument("a byte above 127", () -> x.check(0));
        due.is("its place", x.fault(), 0);
    }

    private static void cutBytesAreGone() {
        AmphoraYard x = new AmphoraYard();
        x.feed(0x6A617278, 0, 0, 0, 0);
        x.end(3);
        x.feed(0x20782020, 0, 0, 0, 0);
        due.argument("jar, a blank, x", () -> x.check(0));
        due.is("the x", x.fault(), 4);
        due.is("check used the tape up", x.end(1), false);
    }

    public static void main(String[] args) {
        feedGoesUpTo400();
        endCuts();
        bytesComeHighestFirst();
        cutBytesAreGone();
        due.done();
    }
}
