/** Promises 14 to 17: rates, notes and what is wrong or false with them. */
public final class NotesTest {
    private static final Due due = new Due();
    private static final String GOOD = "jar 1 oil 20 maker 3 year 121 due 20";

    /** Jar 0 in the yard, jar 1 in a ship with oil 20, jar 2 landed, jar 3 broken, jar 4 in a ship. */
    private static AmphoraYard laden() {
        AmphoraYard x = new AmphoraYard();
        x.kind(5, 200, 5000);
        x.ship();
        for (int jar = 0; jar < 5; jar++) {
            x.fire(0, 3, 120 + jar);
        }
        x.fill(1, 20);
        x.fill(4, 200);
        x.load(3, 0, 1);
        x.load(1, 0, 1);
        x.load(2, 0, 0);
        x.land(0, 0);
        x.storm(0, 100);
        x.load(4, 0, 2);
        return x;
    }

    private static void wrongAt(AmphoraYard x, String text, int fault) {
        Texts.write(x, text);
        due.argument(text, () -> x.check(0));
        due.is("fault of: " + text, x.fault(), fault);
        due.is("used up: " + text, x.end(1), false);
    }

    private static void falsehood(AmphoraYard x, int port, String text, int want) {
        Texts.write(x, text);
        due.is(text, Due.outcome(() -> x.check(port)), String.valueOf(want));
        due.is("fault of: " + text, x.fault(), -1);
        due.is("used up: " + text, x.end(1), false);
    }

    private static void wrongTexts() {
        AmphoraYard x = laden();
        wrongAt(x, "", 0);
        wrongAt(x, "   ", 3);
        wrongAt(x, "ja", 0);
        wrongAt(x, " ja 1", 1);
        wrongAt(x, "jarr 1", 0);
        wrongAt(x, "jarjar 1", 0);
        wrongAt(x, "oil 1", 0);
        wrongAt(x, "Jar 1", 0);
        wrongAt(x, "1 jar", 0);
        wrongAt(x, "jar", 3);
        wrongAt(x, "jar  ", 5);
        wrongAt(x, "jar oil", 4);
        wrongAt(x, "jar -1", 4);
        wrongAt(x, "jar 123456", 4);
        wrongAt(x, "jar 000001 oil", 4);
        wrongAt(x, "jar 12345", 9);
        wrongAt(x, "jar 1 2", 6);
        wrongAt(x, "jar 1,oil", 5);
        wrongAt(x, "jar\t1", 3);
        wrongAt(x, "jar 1 oil 2 maker 3 year 4", 26);
        wrongAt(x, "jar 1 oil 2 maker 3 year 4 ", 27);
        wrongAt(x, "jar 1 oil 2 maker 3 year 4 due", 30);
        wrongAt(x, "jar 1 oil 2 make 3 year 4 due 5", 12);
        wrongAt(x, "jar 1 oil 2 maker 3 years 4 due 5", 20);
        wrongAt(x, "jar 1 oil 2 maker 3 year 4 dues 5", 27);
        wrongAt(x, "jar 1 oil 2 maker 3 year 4 due 123456", 31);
        wrongAt(x, GOOD + "x", GOOD.length());
        wrongAt(x, GOOD + " x", GOOD.length() + 1);
        wrongAt(x, GOOD + "  1", GOOD.length() + 2);
        wrongAt(x, GOOD + " due 1", GOOD.length() + 1);
        wrongAt(x, GOOD + (char) 0, GOOD.length());
        wrongAt(x, GOOD + (char) 160, GOOD.length());
        due.is("no wrong text was counted", x.notes(0, false), 0);
        due.is("nor was it false", x.notes(0, true), 0);
    }

    private static void bytesThatAreNeighbours() {
        AmphoraYard x = laden();
        for (char c : new char[] {'`', '{', '/', ':', '@', 31, 33, 127, 128, 255}) {
            wrongAt(x, c + GOOD, 0);
            wrongAt(x, "jar" + c + " 1", 3);
            wrongAt(x, "jar 1" + c, 5);
        }
    }

    private static void rightTexts() {
        AmphoraYard x = laden();
        falsehood(x, 0, GOOD, 0);
        falsehood(x, 0, "jar1oil20maker3year121due20", 0);
        falsehood(x, 0, "   jar   00001   oil   00020   maker 00003year   00121   due00020   ", 0);
        due.is("checked", x.notes(0, false), 3);
        due.is("false", x.notes(0, true), 0);
    }

    private static void theLongestTape() {
        AmphoraYard x = laden();
        StringBuilder text = new StringBuilder();
        while (text.length() < 400 - GOOD.length()) {
            text.append(' ');
        }
        falsehood(x, 0, text + GOOD, 0);
    }

    private static void falseNotes() {
        AmphoraYard x = laden();
        falsehood(x, 2, "jar 0 oil 0 maker 3 year 120 due 0", 1);
        falsehood(x, 2, "jar 2 oil 0 maker 3 year 122 due 0", 1);
        falsehood(x, 2, "jar 3 oil 0 maker 3 year 123 due 0", 1);
        falsehood(x, 2, "jar 5 oil 0 maker 3 year 123 due 0", 1);
        falsehood(x, 2, "jar 99999 oil 99999 maker 99999 year 99999 due 99999", 1);
        falsehood(x, 2, "jar 1 oil 21 maker 4 year 122 due 21", 2);
        falsehood(x, 2, "jar 1 oil 20 maker 4 year 122 due 21", 3);
        falsehood(x, 2, "jar 1 oil 20 maker 3 year 122 due 21", 4);
        falsehood(x, 2, "jar 1 oil 20 maker 3 year 121 due 21", 5);
        falsehood(x, 2, "jar 1 oil 20 maker 3 year 121 due 19", 5);
        falsehood(x, 2, GOOD, 0);
        due.is("checked", x.notes(2, false), 11);
        due.is("false", x.notes(2, true), 10);
        due.is("checked elsewhere", x.notes(1, false), 0);
        due.is("false elsewhere", x.notes(1, true), 0);
    }

    private static void sixtyJars() {
        AmphoraYard x = new AmphoraYard();
        x.kind(1, 1, 1);
        x.ship();
        for (int jar = 0; jar < 60; jar++) {
            x.fire(0, 2, 3);
        }
        x.load(59, 0, 0);
        falsehood(x, 0, "jar 59 oil 0 maker 2 year 3 due 0", 0);
        falsehood(x, 0, "jar 60 oil 0 maker 2 year 3 due 0", 1);
        falsehood(x, 0, "jar 61 oil 0 maker 2 year 3 due 0", 1);
    }

    private static String noteOf20(int dueNumber) {
        return "jar 1 oil 20 maker 3 year 121 due " + dueNumber;
    }

    private static void rates() {
        AmphoraYard x = laden();
        for (int bad : new int[] {-1, 8, Integer.MIN_VALUE, Integer.MAX_VALUE}) {
            due.index("rate at " + bad, () -> rated(x, bad, -1));
            due.index("notes at " + bad, () -> x.notes(bad, false));
        }
        for (int bad : new int[] {-1, 1001, Integer.MIN_VALUE, Integer.MAX_VALUE}) {
            due.argument("rate " + bad, () -> rated(x, 7, bad));
        }
        for (int port = 0; port < 8; port++) {
            falsehood(x, port, noteOf20(20), 0);
        }
        x.rate(7, 0);
        falsehood(x, 7, noteOf20(0), 0);
        falsehood(x, 7, noteOf20(1), 5);
        falsehood(x, 6, noteOf20(20), 0);
        x.rate(7, 1000);
        falsehood(x, 7, noteOf20(2000), 0);
        falsehood(x, 7, "jar 4 oil 200 maker 3 year 124 due 20000", 0);
    }

    /** 13 of oil by 7 is 9.1, by 3 is 3.9, by 1 is 1.3: each is rounded up. */
    private static void duesAreRoundedUp() {
        AmphoraYard x = new AmphoraYard();
        x.kind(1, 50, 1);
        x.ship();
        x.fire(0, 0, 1);
        x.fill(0, 13);
        x.load(0, 0, 0);
        String head = "jar 0 oil 13 maker 0 year 1 due ";
        int[][] cases = {{7, 10}, {3, 4}, {1, 2}, {10, 13}, {20, 26}, {999, 1299}};
        for (int[] c : cases) {
            x.rate(3, c[0]);
            falsehood(x, 3, head + c[1], 0);
            falsehood(x, 3, head + (c[1] - 1), 5);
            falsehood(x, 3, head + (c[1] + 1), 5);
        }
    }

    private static long rated(AmphoraYard x, int port, int rate) {
        x.rate(port, rate);
        return 0;
    }

    private static void noSuchPort() {
        AmphoraYard x = laden();
        due.is("ahead of any", x.fault(), -1);
        for (int bad : new int[] {-1, 8, Integer.MIN_VALUE, Integer.MAX_VALUE}) {
            Texts.write(x, "jar x");
            due.index("check at " + bad, () -> x.check(bad));
            due.is("it is no latest check", x.fault(), -1);
            due.is("the tape is used up", x.end(1), false);
        }
        wrongAt(x, "jar x", 4);
        Texts.write(x, GOOD);
        due.index("check of a right text", () -> x.check(8));
        due.is("the latest check is another one", x.fault(), 4);
        due.is("the tape is used up", x.end(1), false);
        falsehood(x, 0, GOOD, 0);
    }

    public static void main(String[] args) {
        wrongTexts();
        bytesThatAreNeighbours();
        rightTexts();
        theLongestTape();
        falseNotes();
        sixtyJars();
        rates();
        duesAreRoundedUp();
        noSuchPort();
        due.done();
    }
}
