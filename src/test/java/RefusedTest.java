/**
 * "a call that throws changes nothing but the TAPE, where it is used up", and the calls of which
 * the document says that nothing happens.
 */
public final class RefusedTest {
    private static final Due due = new Due();
    private static final String INDEX = "throws java.lang.IndexOutOfBoundsException";
    private static final String ARGUMENT = "throws java.lang.IllegalArgumentException";
    private static final String FULL = "throws java.lang.UnsupportedOperationException";
    private static final String NO_ELEMENT = "throws java.util.NoSuchElementException";
    private static final String REFUSED = "0";
    private static final String NONE = "-1";

    /** A call on an object. */
    private interface On {
        long answer(AmphoraYard x);
    }

    private static void refused(String what, Sight.Maker maker, String want, On call) {
        due.is(what, Due.outcome(() -> call.answer(maker.made())), want);
        Sight.Maker behind = behind(maker, call);
        due.is(what + " changes nothing", Sight.of(behind), Sight.of(maker));
        due.is(what + " leaves the tape", Sight.tapeOf(behind), Sight.tapeOf(maker));
    }

    private static Sight.Maker behind(Sight.Maker maker, On call) {
        return () -> {
            AmphoraYard x = maker.made();
            Due.outcome(() -> call.answer(x));
            return x;
        };
    }

    private static void some(String what, String want, On call) {
        refused(what, Worlds::some, want, call);
    }

    private static void full(String what, String want, On call) {
        refused(what + " of full rows", Worlds::full, want, call);
    }

    /** 2: "NONE, and none come, if it would have more than 400". */
    private static void feed() {
        full("feed", NONE, x -> x.feed(1, 2, 3, 4, 5));
    }

    /** 3: "false, and nothing happens, if it has fewer, or n is below 0". */
    private static void end() {
        some("end at one more", REFUSED, x -> Due.of(x.end(Worlds.NOTE.length() + 1)));
        some("end below 0", REFUSED, x -> Due.of(x.end(-1)));
        full("end at 401", REFUSED, x -> Due.of(x.end(401)));
    }

    /** 4: "a number is none", "there are 8". */
    private static void kind() {
        some("kind, empty", ARGUMENT, x -> x.kind(0, 1, 1));
        some("kind, room", ARGUMENT, x -> x.kind(1, 201, 1));
        some("kind, bears", ARGUMENT, x -> x.kind(1, 1, -1));
        full("kind", FULL, x -> x.kind(1, 1, 1));
    }

    /** 5: no such kind, "MAKER or YEAR is none", "there are 60". */
    private static void fire() {
        some("fire, kind", INDEX, x -> x.fire(2, 0, 1));
        some("fire, maker", ARGUMENT, x -> x.fire(0, 16, 1));
        some("fire, year", ARGUMENT, x -> x.fire(0, 0, 0));
        full("fire", FULL, x -> x.fire(0, 0, 1));
    }

    /** 6: "NONE, and nothing happens, if it is not in the YARD, or has no ROOM for it"; "not 1 to 200". */
    private static void fill() {
        some("fill, jar", INDEX, x -> x.fill(6, 1));
        some("fill, 0", ARGUMENT, x -> x.fill(0, 0));
        some("fill, 201", ARGUMENT, x -> x.fill(0, 201));
        some("fill, broken", NONE, x -> x.fill(2, 1));
        some("fill, in a ship", NONE, x -> x.fill(3, 1));
        some("fill, landed", NONE, x -> x.fill(4, 1));
        some("fill, full", NONE, x -> x.fill(5, 1));
        some("fill, more than its room", NONE, x -> x.fill(0, 51));
    }

    /** 7: "there are 4". */
    private static void ship() {
        full("ship", FULL, AmphoraYard::ship);
    }

    /** 8: "false, and nothing happens, if it may not, is not in the YARD, or there are 10". */
    private static void load() {
        some("load, jar", INDEX, x -> Due.of(x.load(6, 0, 0)));
        some("load, ship", INDEX, x -> Due.of(x.load(0, 2, 0)));
        some("load, hold", INDEX, x -> Due.of(x.load(0, 0, 6)));
        some("load, broken", REFUSED, x -> Due.of(x.load(2, 0, 0)));
        some("load, in a ship", REFUSED, x -> Due.of(x.load(3, 0, 0)));
        some("load, onto itself", REFUSED, x -> Due.of(x.load(3, 1, 4)));
        some("load, landed", REFUSED, x -> Due.of(x.load(4, 0, 0)));
        full("load, an eleventh", REFUSED, x -> Due.of(x.load(10, 0, 0)));
    }

    private static AmphoraYard weakBelow() {
        AmphoraYard x = new AmphoraYard();
        x.kind(10, 50, 100);
        x.kind(20, 60, 5);
        x.ship();
        x.fire(1, 0, 1);
        x.fire(0, 0, 1);
        x.load(0, 0, 0);
        return x;
    }

    /** 8: a jar that may not, as one below would bear too much. */
    private static void loadTooHeavy() {
        refused("load, too heavy", RefusedTest::weakBelow, REFUSED, x -> Due.of(x.load(1, 0, 0)));
    }

    /** 9: "NONE without one". */
    private static void land() {
        some("land, ship", INDEX, x -> x.land(2, 0));
        some("land, hold", INDEX, x -> x.land(0, -1));
        some("land, nothing", NONE, x -> x.land(0, 0));
    }

    /** 10: no such ship, "it is not 0 to 100"; and a storm that breaks none. */
    private static void storm() {
        some("storm, ship", INDEX, x -> x.storm(2, 0));
        some("storm, -1", ARGUMENT, x -> x.storm(1, -1));
        full("storm, 101", ARGUMENT, x -> x.storm(0, 101));
        full("storm of 0", REFUSED, x -> x.storm(0, 0));
        full("storm on an empty ship", REFUSED, x -> x.storm(1, 100));
    }

    /** 11, 12, 21, 29: looks, of what there is and of what there is none, change nothing. */
    private static void looks() {
        some("look, jar", INDEX, x -> x.look(6, 0));
        some("look, what", NO_ELEMENT, x -> x.look(0, 9));
        some("stack, ship", INDEX, x -> x.stack(2, 0, 0));
        some("stack, hold", INDEX, x -> x.stack(0, 6, 0));
        some("stack, k", NONE, x -> x.stack(1, 4, 1));
        some("vessel, sherd", INDEX, x -> x.vessel(4, 0));
        some("vessel, what", NO_ELEMENT, x -> x.vessel(0, 3));
        some("vessels, stamp", INDEX, x -> x.vessels(12));
        some("count, what", NONE, x -> x.count(10));
    }

    private static AmphoraYard thirteenInTheYard() {
        AmphoraYard x = new AmphoraYard();
        x.kind(1, 1, 5000);
        for (int jar = 0; jar < 13; jar++) {
            x.fire(0, 0, 1);
        }
        return x;
    }

    /** 13: "more than 12 of it are in the YARD"; an answer, too, leaves the jars where they are. */
    private static void tallest() {
        refused("tallest of 13", RefusedTest::thirteenInTheYard, ARGUMENT, x -> x.tallest(0x1FFF));
        some("tallest", "3", x -> x.tallest(-1));
    }

    /** 14: no such port, "it is none". */
    private static void rate() {
        some("rate, port", INDEX, x -> rated(x, 8, 0));
        some("rate, -1", ARGUMENT, x -> rated(x, 1, -1));
        some("rate, 1001", ARGUMENT, x -> rated(x, 1, 1001));
    }

    private static long rated(AmphoraYard x, int port, int rate) {
        x.rate(port, rate);
        return 0;
    }

    /** 15: no such port: all stays, fault() too, but the tape is used up. */
    private static void checkAtNoPort() {
        for (int port : new int[] {-1, 8}) {
            On call = x -> x.check(port);
            due.is("check at " + port, Due.outcome(() -> call.answer(Worlds.some())), INDEX);
            Sight.Maker behind = behind(Worlds::some, call);
            due.is("check at " + port + " changes nothing", Sight.of(behind), Sight.of(Worlds::some));
            due.is("check at " + port + " uses the tape up", Sight.tapeOf(behind), "0 bytes, " + ARGUMENT + ", 0");
        }
    }

    /** 15: "the text is wrong (it is not counted)": all stays but fault() and the tape. */
    private static void checkOfAWrongText() {
        Sight.Maker wrong = () -> {
            AmphoraYard x = Worlds.some();
            x.end(11);
            return x;
        };
        On call = x -> x.check(0);
        due.is("check of a wrong text", Due.outcome(() -> call.answer(wrong.made())), ARGUMENT);
        Sight.Maker behind = behind(wrong, call);
        due.is("its fault", behind.made().fault(), 11);
        due.is("but for the fault", Sight.of(behind).replace("fault 11", "fault 10"), Sight.of(Worlds::some));
        due.is("it uses the tape up", Sight.tapeOf(behind), "0 bytes, " + ARGUMENT + ", 0");
    }

    /** 17: no such port. */
    private static void notes() {
        some("notes, port", INDEX, x -> x.notes(8, true));
    }

    /** 18: "CLAY is none", "STAMP is none", "there are 60". */
    private static void sherd() {
        some("sherd, clay", ARGUMENT, x -> x.sherd(16, 0));
        some("sherd, stamp", INDEX, x -> x.sherd(0, 12));
        some("sherd, stamp below NONE", INDEX, x -> x.sherd(0, -2));
        full("sherd", FULL, x -> x.sherd(0, 0));
    }

    /** 19: "false, and nothing happens, if they may not be, or are of one VESSEL". */
    private static void join() {
        some("join, the first", INDEX, x -> Due.of(x.join(4, 0)));
        some("join, the second", INDEX, x -> Due.of(x.join(0, -1)));
        some("join, two clays", REFUSED, x -> Due.of(x.join(1, 2)));
        some("join, two stamps", REFUSED, x -> Due.of(x.join(1, 3)));
        some("join, one vessel", REFUSED, x -> Due.of(x.join(1, 0)));
        some("join, one sherd", REFUSED, x -> Due.of(x.join(2, 2)));
    }

    /** 22: no such stamp, "they are one, or years are none", "there are 60". */
    private static void tell() {
        some("tell, earlier", INDEX, x -> x.tell(-1, 0, 0));
        some("tell, later", INDEX, x -> x.tell(0, 12, 0));
        some("tell, one", ARGUMENT, x -> x.tell(4, 4, 0));
        some("tell, years", ARGUMENT, x -> x.tell(4, 5, 501));
        full("tell", FULL, x -> x.tell(0, 1, 500));
    }

    /** 23: no such stamp, "the YEAR is none", "there are 60". */
    private static void bound() {
        some("bound, stamp", INDEX, x -> x.bound(12, 0, true));
        some("bound, at most", ARGUMENT, x -> x.bound(4, -1, true));
        some("bound, at least", ARGUMENT, x -> x.bound(4, 1001, false));
        full("bound", FULL, x -> x.bound(0, 0, true));
    }

    /** 24: no such telling; one that was taken back stays so, from the day on which it was. */
    private static void undo() {
        some("undo, telling", INDEX, x -> Due.of(x.undo(4)));
        some("undo, below 0", INDEX, x -> Due.of(x.undo(-1)));
        some("undo, a second time", REFUSED, x -> Due.of(x.undo(1)));
    }

    /** 25: "not 0 to 1000"; no days later it is the same day. */
    private static void days() {
        some("days, -1", ARGUMENT, x -> x.days(-1));
        some("days, 1001", ARGUMENT, x -> x.days(1001));
        some("days, 0", "7", x -> x.days(0));
    }

    /** 26 to 28: what is asked of days changes nothing, whether it is answered or not. */
    private static void years() {
        some("agree", REFUSED, x -> Due.of(x.agree(7)));
        some("span, stamp", INDEX, x -> x.span(12, false, 0));
        some("span, they do not agree", NO_ELEMENT, x -> x.span(0, false, 7));
        some("span, no bound", NO_ELEMENT, x -> x.span(0, true, 0));
        some("span", "100", x -> x.span(0, false, 4));
        some("quarrel", "2", x -> x.quarrel(7));
    }

    public static void main(String[] args) {
        feed();
        end();
        kind();
        fire();
        fill();
        ship();
        load();
        loadTooHeavy();
        land();
        storm();
        looks();
        tallest();
        rate();
        checkAtNoPort();
        checkOfAWrongText();
        notes();
        sherd();
        join();
        tell();
        bound();
        undo();
        days();
        years();
        due.done();
    }
}
