/**
 * "Of several exceptions the one told first is thrown": for each call all its reasons to throw,
 * together and in pairs. No such thing is told in the terms, ahead of all promises; where a promise
 * tells an order of its own, as that of sherd does, it is that order.
 */
public final class FirstToldTest {
    private static final Due due = new Due();

    /** 4: "a number is none" ahead of "there are 8". */
    private static void kind() {
        due.argument("empty", () -> Worlds.full().kind(0, 1, 1));
        due.argument("room", () -> Worlds.full().kind(1, 0, 1));
        due.argument("bears", () -> Worlds.full().kind(1, 1, -1));
        due.full("right", () -> Worlds.full().kind(1, 1, 1));
    }

    /** 5: no such kind, ahead of "MAKER or YEAR is none", ahead of "there are 60". */
    private static void fire() {
        due.index("all", () -> Worlds.full().fire(8, 16, 0));
        due.index("kind and maker", () -> Worlds.some().fire(2, -1, 1));
        due.index("kind and year", () -> Worlds.some().fire(-1, 0, 301));
        due.index("kind and full", () -> Worlds.full().fire(-1, 0, 1));
        due.argument("maker and full", () -> Worlds.full().fire(0, -1, 1));
        due.argument("year and full", () -> Worlds.full().fire(0, 0, 301));
        due.full("right", () -> Worlds.full().fire(0, 0, 1));
    }

    /** 6: no such jar, ahead of "not 1 to 200", ahead of the answer NONE. */
    private static void fill() {
        due.index("jar and oil", () -> Worlds.some().fill(6, 0));
        due.index("jar and oil", () -> Worlds.some().fill(-1, 201));
        due.argument("oil and no room", () -> Worlds.some().fill(5, 201));
        due.argument("oil and not in the yard", () -> Worlds.some().fill(3, 0));
    }

    /** 8, 9, 12: no such thing, ahead of the answers false and NONE. */
    private static void holds() {
        due.index("ship, of a jar in a ship", () -> Due.of(Worlds.some().load(3, 2, 0)));
        due.index("hold, of a landed jar", () -> Due.of(Worlds.some().load(4, 0, 6)));
        due.index("jar, onto a full hold", () -> Due.of(Worlds.full().load(60, 0, 0)));
        due.index("hold of no jar", () -> Worlds.some().land(0, 6));
        due.index("hold and k", () -> Worlds.some().stack(0, -1, -1));
        due.index("ship and k", () -> Worlds.some().stack(2, 0, 10));
    }

    /** 10: no such ship, ahead of "it is not 0 to 100". */
    private static void storm() {
        due.index("ship and storm", () -> Worlds.some().storm(2, 101));
        due.index("ship and storm", () -> Worlds.full().storm(-1, -1));
        due.argument("storm", () -> Worlds.some().storm(0, 101));
    }

    /** 11: no such jar, ahead of "another what". */
    private static void look() {
        due.index("jar and what", () -> Worlds.some().look(6, 9));
        due.index("jar and what", () -> Worlds.some().look(-1, -1));
        due.none("what", () -> Worlds.some().look(0, 9));
    }

    /** 14: no such port, ahead of "it is none". */
    private static void rate() {
        due.index("port and rate", () -> rated(8, 1001));
        due.index("port and rate", () -> rated(-1, -1));
        due.argument("rate", () -> rated(7, 1001));
    }

    private static long rated(int port, int rate) {
        new AmphoraYard().rate(port, rate);
        return 0;
    }

    /** 15: no such port, ahead of "the text is wrong". */
    private static void check() {
        due.index("port and text", () -> new AmphoraYard().check(8));
        due.index("port and text", () -> Worlds.full().check(-1));
        due.argument("text", () -> new AmphoraYard().check(0));
    }

    /** 18: "CLAY is none", ahead of "STAMP is none", ahead of "there are 60". */
    private static void sherd() {
        due.argument("all", () -> Worlds.full().sherd(16, 12));
        due.argument("clay and stamp", () -> Worlds.some().sherd(-1, -2));
        due.argument("clay and full", () -> Worlds.full().sherd(-1, 0));
        due.index("stamp and full", () -> Worlds.full().sherd(0, -2));
        due.full("right", () -> Worlds.full().sherd(0, -1));
    }

    /** 19: no such sherd, ahead of the answer false. */
    private static void join() {
        due.index("two that are one and none", () -> Due.of(Worlds.some().join(4, 4)));
        due.index("the second", () -> Due.of(Worlds.some().join(3, 60)));
    }

    /** 21: no such sherd, ahead of "another what". */
    private static void vessel() {
        due.index("sherd and what", () -> Worlds.some().vessel(4, 3));
        due.index("sherd and what", () -> Worlds.some().vessel(-1, -1));
        due.none("what", () -> Worlds.some().vessel(0, 3));
    }

    /** 22: no such stamp, ahead of "they are one, or years are none", ahead of "there are 60". */
    private static void tell() {
        due.index("all", () -> Worlds.full().tell(12, 12, 501));
        due.index("earlier and years", () -> Worlds.some().tell(-1, 0, 501));
        due.index("later and years", () -> Worlds.some().tell(0, 12, -501));
        due.index("later and full", () -> Worlds.full().tell(0, 12, 0));
        due.argument("one and full", () -> Worlds.full().tell(0, 0, 0));
        due.argument("years and full", () -> Worlds.full().tell(0, 1, -501));
        due.full("right", () -> Worlds.full().tell(0, 1, 0));
    }

    /** 23: no such stamp, ahead of "the YEAR is none", ahead of "there are 60". */
    private static void bound() {
        due.index("all", () -> Worlds.full().bound(12, 1001, true));
        due.index("stamp and year", () -> Worlds.some().bound(-1, -1, false));
        due.index("stamp and full", () -> Worlds.full().bound(12, 0, false));
        due.argument("year and full", () -> Worlds.full().bound(0, -1, true));
        due.full("right", () -> Worlds.full().bound(0, 0, true));
    }

    /** 27: no such stamp, ahead of "there is none". */
    private static void span() {
        due.index("stamp, where they quarrel", () -> Worlds.some().span(12, true, 7));
        due.index("stamp, where none is known", () -> new AmphoraYard().span(-1, false, 0));
        due.none("where they quarrel", () -> Worlds.some().span(11, true, 7));
    }

    public static void main(String[] args) {
        kind();
        fire();
        fill();
        holds();
        storm();
        look();
        rate();
        check();
        sherd();
        join();
        vessel();
        tell();
        bound();
        span();
        due.done();
    }
}
