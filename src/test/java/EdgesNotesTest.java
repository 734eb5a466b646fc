/**
 * The edges of the tape and of part 2 (promises 2, 3 and 14 to 17): each test bears the sentence
 * of the document that it holds the class to. That a refused call changes nothing stands in
 * RefusedTest.
 */
public final class EdgesNotesTest {
    private static final Due due = new Due();
    private static final int LEAST = Integer.MIN_VALUE;
    private static final int GREATEST = Integer.MAX_VALUE;
    private static final int BLANKS = 0x20202020;

    /** One jar, numbered 0, in a ship: oil 25, maker 4, year 120. */
    private static AmphoraYard oneLaden() {
        AmphoraYard x = new AmphoraYard();
        x.kind(1, 200, 1);
        x.ship();
        x.fire(0, 4, 120);
        x.fill(0, 25);
        x.load(0, 0, 0);
        return x;
    }

    private static String note(String dueNumber) {
        return "jar 0 oil 25 maker 4 year 120 due " + dueNumber;
    }

    private static String checked(AmphoraYard x, int port, String text) {
        Texts.write(x, text);
        return Due.outcome(() -> x.check(port));
    }

    private static void falsehood(AmphoraYard x, String text, int want) {
        due.is(text, checked(x, 0, text), String.valueOf(want));
        due.is("fault of: " + text, x.fault(), -1);
    }

    private static void wrong(String text, int fault) {
        AmphoraYard x = oneLaden();
        due.is(text, checked(x, 0, text), "throws java.lang.IllegalArgumentException");
        due.is("fault of: " + text, x.fault(), fault);
        due.is("not counted: " + text, x.notes(0, false) + x.notes(0, true), 0);
    }

    /** 2: "how many it has; NONE, and none come, if it would have more than 400". */
    private static void fourHundredBytes() {
        AmphoraYard x = new AmphoraYard();
        for (int n = 1; n <= 20; n++) {
            due.is("feed", x.feed(BLANKS, BLANKS, BLANKS, BLANKS, BLANKS), 20 * n);
        }
        due.is("feed at 400", x.feed(0, 0, 0, 0, 0), -1);
        due.is("400 bytes", x.end(400), true);
        due.argument("all of them blanks", () -> x.check(0));
        due.is("more must come", x.fault(), 400);
        due.is("used up, it is empty", x.feed(0, 0, 0, 0, 0), 20);
    }

    /** The same where the tape does not have a whole number of feeds. */
    private static void feedBehindACut() {
        for (int size = 370; size <= 400; size++) {
            AmphoraYard x = new AmphoraYard();
            for (int n = 0; n < 20; n++) {
                x.feed(0, 0, 0, 0, 0);
            }
            x.end(size);
            due.is("feed at " + size, x.feed(0, 0, 0, 0, 0), size <= 380 ? size + 20 : -1);
            due.is("it has as many", x.end(size <= 380 ? size + 20 : size), true);
            due.is("and no more", x.end(size <= 380 ? size + 21 : size + 1), false);
        }
    }

    /** 2: "of each number the highest first": bytes of all kinds, the sign's too. */
    private static void highestFirst() {
        int[] numbers = {0x6A617230, 0x6F696C32, 0x356D616B, 0x65723479, 0x65617231};
        AmphoraYard x = oneLaden();
        x.feed(numbers[0], numbers[1], numbers[2], numbers[3], numbers[4]);
        x.feed(0x32306475, 0x65323520, BLANKS, BLANKS, BLANKS);
        due.is("jar0oil25maker4year120due25", Due.outcome(() -> x.check(0)), "0");
        AmphoraYard y = oneLaden();
        y.feed(0x2020A020, BLANKS, BLANKS, BLANKS, BLANKS);
        due.argument("160 is no blank", () -> y.check(0));
        due.is("its place", y.fault(), 2);
    }

    /** 3: "false, and nothing happens, if it has fewer, or n is below 0". */
    private static void endAtEdges() {
        AmphoraYard x = new AmphoraYard();
        due.is("0 of none", x.end(0), true);
        due.is("1 of none", x.end(1), false);
        x.feed(0, 0, 0, 0, 0);
        for (int n : new int[] {21, -1, LEAST, GREATEST}) {
            due.is("end " + n + " of 20", x.end(n), false);
        }
        due.is("20 of 20", x.end(20), true);
        due.is("19 of 20", x.end(19), true);
        due.is("20 of 19", x.end(20), false);
        due.is("0 of 19", x.end(0), true);
        due.is("1 of 0", x.end(1), false);
        due.is("an empty tape is fed", x.feed(0, 0, 0, 0, 0), 20);
    }

    /** "each NUMBER 1 to 5 digits": in each of the five places 1 and 5 are, 0 and 6 are not. */
    private static void digits() {
        String[] words = {"jar", "oil", "maker", "year", "due"};
        for (int place = 0; place < 5; place++) {
            StringBuilder head = new StringBuilder();
            for (int i = 0; i < place; i++) {
                head.append(words[i]).append(" 1 ");
            }
            head.append(words[place]).append(' ');
            StringBuilder tail = new StringBuilder();
            for (int i = place + 1; i < 5; i++) {
                tail.append(' ').append(words[i]).append(" 1");
            }
            falsehood(oneLaden(), head + "1" + tail, 1);
            falsehood(oneLaden(), head + "99999" + tail, 1);
            wrong(head + "100000" + tail, head.length());
            wrong(head + "000000" + tail, head.length());
            wrong(head.toString() + tail, head.length() + (place == 4 ? 0 : 1));
        }
    }

    /** Five digits with noughts ahead are a number as others are. */
    private static void noughtsAhead() {
        falsehood(oneLaden(), "jar 00000 oil 00025 maker 00004 year 00120 due 00025", 0);
        falsehood(oneLaden(), "jar 0 oil 025 maker 4 year 0120 due 25", 0);
    }

    /** "Words are as long as a to z go on": a letter too few or too many is another word. */
    private static void words() {
        String[] words = {"jar", "oil", "maker", "year", "due"};
        StringBuilder head = new StringBuilder();
        for (String word : words) {
            wrong(head + word.substring(1) + " 1", head.length());
            wrong(head + word.substring(0, word.length() - 1) + " 1", head.length());
            wrong(head + word.substring(0, word.length() - 1), head.length());
            wrong(head + word + "a 1", head.length());
            wrong(head + word + "z1", head.length());
            wrong(head + "x" + word + " 1", head.length());
            wrong(head + word.toUpperCase() + " 1", head.length());
            wrong(head + word + word + " 1", head.length());
            wrong(head + word, head.length() + word.length());
            head.append(word).append(" 1 ");
        }
    }

    /** "between all there may be blanks (32), also ahead and behind": none, one, and many of them. */
    private static void blanks() {
        falsehood(oneLaden(), "jar0oil25maker4year120due25", 0);
        falsehood(oneLaden(), " jar 0 oil 25 maker 4 year 120 due 25 ", 0);
        falsehood(oneLaden(), "   jar   0   oil   25   maker   4   year   120   due   25   ", 0);
        falsehood(oneLaden(), " ".repeat(400 - 27) + "jar0oil25maker4year120due25", 0);
        falsehood(oneLaden(), "jar0oil25maker4year120due25" + " ".repeat(400 - 27), 0);
        wrong("jar0 oil2 5 maker4year120due25", 10);
        wrong("jar0oil25maker4year120due25 25", 28);
        wrong("j ar0oil25maker4year120due25", 0);
        for (char c : new char[] {0, 9, 10, 13, 31, 33, 160}) {
            wrong("jar" + c + "0oil25maker4year120due25", 3);
        }
    }

    /** "The first wrong byte: the begin of the first thing that cannot stand there". */
    private static void firstThing() {
        wrong("0jar", 0);
        wrong("jar 0 jar 0", 6);
        wrong("jar 0 1 oil", 6);
        wrong("jar oil 0", 4);
        wrong("jar 0 oil 25 maker 4 year 120 due 25 jar 0", 37);
        wrong("jar 0 oil 25 maker 4 year 120 due 25.", 36);
        wrong("jar 0 oil 1000000 make", 10);
        wrong("jar 0 oil +5", 10);
        wrong("?", 0);
    }

    /** "or the text's length, if more must come". */
    private static void moreMustCome() {
        String whole = "jar 0 oil 25 maker 4 year 120 due 25";
        int[] ends = {0, 3, 4, 5, 6, 9, 10, 11, 12, 13, 18, 19, 20, 21, 25, 26, 27, 28, 29, 30, 33, 34};
        for (int length : ends) {
            wrong(whole.substring(0, length), length);
        }
        wrong(" ", 1);
        wrong(" ".repeat(400), 400);
        falsehood(oneLaden(), whole.substring(0, 35), 5);
    }

    /** "1 there is no such JAR, or it is in no SHIP". */
    private static void noSuchJar() {
        falsehood(oneLaden(), "jar 1 oil 25 maker 4 year 120 due 25", 1);
        falsehood(oneLaden(), "jar 99999 oil 25 maker 4 year 120 due 25", 1);
        falsehood(new AmphoraYard(), "jar 0 oil 0 maker 0 year 1 due 0", 1);
        AmphoraYard x = Worlds.full();
        x.end(0);
        falsehood(x, "jar 9 oil 0 maker 0 year 1 due 0", 0);
        falsehood(x, "jar 59 oil 0 maker 0 year 1 due 0", 1);
        falsehood(x, "jar 60 oil 0 maker 0 year 1 due 0", 1);
    }

    /** The same for jars in the yard, broken and landed, whose other numbers are right. */
    private static void inNoShip() {
        for (int jar : new int[] {0, 2, 4}) {
            AmphoraYard x = Worlds.some();
            x.end(0);
            falsehood(x, "jar " + jar + " oil 0 maker " + jar + " year " + (10 + jar) + " due 0", 1);
        }
        AmphoraYard y = Worlds.some();
        y.end(0);
        falsehood(y, Worlds.NOTE, 0);
    }

    /** "what is FALSE, the first that holds": each, one below and one above, and all behind it false. */
    private static void theFirstThatHolds() {
        for (int by = -1; by <= 1; by += 2) {
            falsehood(oneLaden(), "jar 0 oil " + (25 + by) + " maker 4 year 120 due 25", 2);
            falsehood(oneLaden(), "jar 0 oil " + (25 + by) + " maker 5 year 121 due 0", 2);
            falsehood(oneLaden(), "jar 0 oil 25 maker " + (4 + by) + " year 120 due 25", 3);
            falsehood(oneLaden(), "jar 0 oil 25 maker " + (4 + by) + " year 121 due 0", 3);
            falsehood(oneLaden(), "jar 0 oil 25 maker 4 year " + (120 + by) + " due 25", 4);
            falsehood(oneLaden(), "jar 0 oil 25 maker 4 year " + (120 + by) + " due 0", 4);
            falsehood(oneLaden(), note(String.valueOf(25 + by)), 5);
        }
        falsehood(oneLaden(), note("25"), 0);
    }

    /** "OIL times RATE of the PORT by 10, rounded up": 25 times 1 is 2.5, times 3 is 7.5. */
    private static void dueIsRoundedUp() {
        int[][] rates = {{0, 0}, {1, 3}, {2, 5}, {3, 8}, {4, 10}, {10, 25}, {11, 28}, {999, 2498}, {1000, 2500}};
        for (int[] r : rates) {
            for (int by = r[0] == 0 ? 0 : -1; by <= 1; by++) {
                AmphoraYard x = oneLaden();
                x.rate(0, r[0]);
                falsehood(x, note(String.valueOf(r[1] + by)), by == 0 ? 0 : 5);
            }
        }
    }

    /** The least and the greatest due: an empty jar, and a full one at the greatest rate. */
    private static void leastAndGreatestDue() {
        for (int oil : new int[] {0, 1, 200}) {
            AmphoraYard x = new AmphoraYard();
            x.kind(1, 200, 1);
            x.ship();
            x.fire(0, 0, 1);
            if (oil > 0) {
                x.fill(0, oil);
            }
            x.load(0, 0, 0);
            x.rate(0, 1000);
            String head = "jar 0 oil " + oil + " maker 0 year 1 due ";
            falsehood(x, head + 100 * oil, 0);
            falsehood(x, head + (100 * oil + 1), 5);
            x.rate(0, 1);
            falsehood(x, head + (oil + 9) / 10, 0);
        }
    }

    /** "PORTS 0 to 7": 14, 15, 17: there is no such PORT. */
    private static void ports() {
        due.takesIndex("rate", 7, 0, n -> rated(oneLaden(), n, 0));
        due.takesIndex("notes", 7, 0, n -> oneLaden().notes(n, true));
        due.takesIndex("check", 7, 0, n -> {
            AmphoraYard x = oneLaden();
            Texts.write(x, note("25"));
            return x.check(n);
        });
    }

    private static long rated(AmphoraYard x, int port, int rate) {
        x.rate(port, rate);
        return 0;
    }

    /** "a RATE (0 to 1000 ..)"; 14: "it is none". */
    private static void rateNumbers() {
        due.takesNumber("rate", 0, 1000, 0, n -> rated(oneLaden(), 0, n));
    }

    /** "a RATE (.. 10 at first)", at each port; a rate is that of its port alone. */
    private static void rateAtFirst() {
        for (int port = 0; port < 8; port++) {
            due.is("10 at first", checked(oneLaden(), port, note("25")), "0");
            AmphoraYard x = oneLaden();
            x.rate(port, 20);
            for (int other = 0; other < 8; other++) {
                due.is("at " + other, checked(x, other, note(other == port ? "50" : "25")), "0");
            }
        }
    }

    /** 15: "Uses the TAPE up": an answer, a wrong text and a port that is none do. */
    private static void tapeIsUsedUp() {
        AmphoraYard x = oneLaden();
        checked(x, 0, note("25"));
        due.is("an answer", x.end(1), false);
        checked(x, 0, note("25") + "!");
        due.is("a wrong text", x.end(1), false);
        checked(x, 8, note("25"));
        due.is("no port", x.end(1), false);
        due.is("the next text stands alone", checked(x, 0, note("25")), "0");
    }

    /** 15: the empty tape is a text that is wrong. */
    private static void checkOfNothing() {
        AmphoraYard x = new AmphoraYard();
        due.argument("nothing", () -> x.check(7));
        due.is("its fault", x.fault(), 0);
        due.is("not counted", x.notes(7, false), 0);
    }

    /** 16: "NONE without one, and ahead of any". */
    private static void faults() {
        AmphoraYard x = oneLaden();
        due.is("ahead of any", x.fault(), -1);
        checked(x, 8, "?");
        checked(x, -1, "?");
        due.is("ahead of any at a port that there is", x.fault(), -1);
        checked(x, 0, "jar ?");
        due.is("a wrong text", x.fault(), 4);
        checked(x, 8, "?");
        due.is("no port", x.fault(), 4);
        due.is("asked again", x.fault(), 4);
        checked(x, 7, "jar 0 ?");
        due.is("another port", x.fault(), 6);
        checked(x, 0, note("0"));
        due.is("a false note is no wrong text", x.fault(), -1);
        checked(x, 8, "?");
        due.is("no port", x.fault(), -1);
    }

    /** 17: "How many NOTES were checked at a PORT (false wrong), or were FALSE", port by port. */
    private static void counts() {
        AmphoraYard x = oneLaden();
        for (int port = 0; port < 8; port++) {
            for (int n = 0; n < port; n++) {
                checked(x, port, note("25"));
            }
            checked(x, port, note("24"));
            checked(x, port, note("24") + "?");
        }
        for (int port = 0; port < 8; port++) {
            due.is("checked at " + port, x.notes(port, false), port + 1);
            due.is("false at " + port, x.notes(port, true), 1);
        }
    }

    public static void main(String[] args) {
        fourHundredBytes();
        feedBehindACut();
        highestFirst();
        endAtEdges();
        digits();
        noughtsAhead();
        words();
        blanks();
        firstThing();
        moreMustCome();
        noSuchJar();
        inNoShip();
        theFirstThatHolds();
        dueIsRoundedUp();
        leastAndGreatestDue();
        ports();
        rateNumbers();
        rateAtFirst();
        tapeIsUsedUp();
        checkOfNothing();
        faults();
        counts();
        due.done();
    }
}
