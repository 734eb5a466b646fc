/** Promises 1, 4 to 12 and 29: the yard and its ships. */
public final class YardTest {
    private static final Due due = new Due();
    private static final int LEAST = Integer.MIN_VALUE;
    private static final int GREATEST = Integer.MAX_VALUE;

    private static void aNewObjectIsEmpty() {
        AmphoraYard x = new AmphoraYard();
        for (int what = 0; what <= 9; what++) {
            due.is("count(" + what + ")", x.count(what), 0);
        }
        for (int what : new int[] {-1, 10, LEAST, GREATEST}) {
            due.is("count(" + what + ")", x.count(what), -1);
        }
        due.is("fault()", x.fault(), -1);
        due.is("vessels", x.vessels(-1), 0);
        due.is("tallest", x.tallest(-1), 0);
        due.is("quarrel", x.quarrel(0), 0);
        due.index("a jar", () -> x.look(0, 0));
        due.index("a ship", () -> x.land(0, 0));
    }

    private static void objectsAreApart() {
        AmphoraYard one = new AmphoraYard();
        one.kind(1, 1, 1);
        one.fire(0, 0, 1);
        one.days(3);
        AmphoraYard other = new AmphoraYard();
        due.is("kinds of another object", other.count(0), 0);
        due.is("days of another object", other.count(9), 0);
    }

    private static void kinds() {
        AmphoraYard x = new AmphoraYard();
        int[][] wrong = {
            {0, 1, 1}, {101, 1, 1}, {1, 0, 1}, {1, 201, 1}, {1, 1, -1}, {1, 1, 5001},
            {LEAST, 1, 1}, {1, GREATEST, 1}, {1, 1, LEAST},
        };
        for (int[] w : wrong) {
            due.argument("kind" + w[0] + "," + w[1] + "," + w[2], () -> x.kind(w[0], w[1], w[2]));
        }
        due.is("no wrong one came", x.count(0), 0);
        due.is("the least", x.kind(1, 1, 0), 0);
        due.is("the greatest", x.kind(100, 200, 5000), 1);
        for (int n = 2; n < 8; n++) {
            due.is("kind " + n, x.kind(n, n, n), n);
        }
        due.full("a ninth", () -> x.kind(1, 1, 1));
        due.argument("a ninth that is none", () -> x.kind(0, 1, 1));
        due.is("kinds", x.count(0), 8);
    }

    private static void firing() {
        AmphoraYard x = new AmphoraYard();
        due.index("no kind", () -> x.fire(0, 0, 1));
        x.kind(7, 9, 11);
        due.index("kind -1", () -> x.fire(-1, 0, 1));
        due.index("kind 1", () -> x.fire(1, 99, 999));
        for (int maker : new int[] {-1, 16, LEAST, GREATEST}) {
            due.argument("maker " + maker, () -> x.fire(0, maker, 1));
        }
        for (int year : new int[] {0, 301, -5, LEAST, GREATEST}) {
            due.argument("year " + year, () -> x.fire(0, 0, year));
        }
        due.is("none came", x.count(1), 0);
        due.is("the least", x.fire(0, 0, 1), 0);
        due.is("the greatest", x.fire(0, 15, 300), 1);
        int[] want = {0, 0, 15, 300, 0, 7, -1, -1, 0};
        for (int what = 0; what < want.length; what++) {
            due.is("look(1, " + what + ")", x.look(1, what), want[what]);
        }
        for (int n = 2; n < 60; n++) {
            due.is("fire " + n, x.fire(0, 3, 4), n);
        }
        due.full("jar 61", () -> x.fire(0, 0, 1));
        due.argument("jar 61 that is none", () -> x.fire(0, 16, 1));
        due.index("jar 61 of no kind", () -> x.fire(1, 16, 1));
        due.is("jars", x.count(1), 60);
        due.is("in the yard", x.count(2), 60);
        due.is("in none", x.count(3) + x.count(4) + x.count(5), 0);
        x.fill(59, 9);
        due.is("oil of the last one", x.count(6), 9);
    }

    private static void filling() {
        AmphoraYard x = new AmphoraYard();
        x.kind(10, 200, 100);
        x.kind(10, 5, 100);
        x.fire(0, 0, 1);
        x.fire(1, 0, 1);
        x.ship();
        due.index("jar 2", () -> x.fill(2, 1));
        due.index("jar -1 ahead of the oil", () -> x.fill(-1, 0));
        for (int oil : new int[] {0, 201, -1, LEAST, GREATEST}) {
            due.argument("oil " + oil, () -> x.fill(0, oil));
        }
        due.is("all its room", x.fill(0, 200), 200);
        due.is("no room", x.fill(0, 1), -1);
        due.is("too much", x.fill(1, 6), -1);
        due.is("nothing came", x.look(1, 4), 0);
        due.is("some", x.fill(1, 2), 2);
        due.is("to the brim", x.fill(1, 3), 5);
        due.is("weight", x.look(0, 5), 210);
        due.is("oil of all", x.count(6), 205);
        x.fire(1, 0, 1);
        x.load(2, 0, 0);
        due.is("in a ship", x.fill(2, 1), -1);
        due.argument("in a ship, wrong oil", () -> x.fill(2, 0));
        x.land(0, 0);
        due.is("landed", x.fill(2, 1), -1);
    }

    private static void shipsAndHolds() {
        AmphoraYard x = new AmphoraYard();
        x.kind(1, 1, 5000);
        x.fire(0, 0, 1);
        due.index("no ship", () -> x.load(0, 0, 0) ? 1 : 0);
        for (int n = 0; n < 4; n++) {
            due.is("ship " + n, x.ship(), n);
        }
        due.full("a fifth", x::ship);
        for (int bad : new int[] {-1, 6, LEAST, GREATEST}) {
            due.index("load, hold " + bad, () -> x.load(0, 0, bad) ? 1 : 0);
            due.index("land, hold " + bad, () -> x.land(0, bad));
            due.index("stack, hold " + bad, () -> x.stack(0, bad, 0));
            due.index("load, ship " + bad, () -> x.load(0, bad, 0) ? 1 : 0);
            due.index("land, ship " + bad, () -> x.land(bad, 0));
            due.index("stack, ship " + bad, () -> x.stack(bad, 0, 0));
            due.index("storm, ship " + bad, () -> x.storm(bad, 101));
            due.index("load, jar " + bad, () -> x.load(bad, 0, 0) ? 1 : 0);
            due.index("look, jar " + bad, () -> x.look(bad, 99));
        }
        due.index("ship 4", () -> x.stack(4, 0, 0));
        due.index("jar 1", () -> x.load(1, 0, 0) ? 1 : 0);
        due.is("the last hold of the last ship", x.load(0, 3, 5), true);
        due.is("its ship", x.look(0, 6), 3);
        due.is("its hold", x.look(0, 7), 5);
        due.is("its place", x.look(0, 0), 1);
        due.is("stack", x.stack(3, 5, 0), 0);
        due.is("of another hold", x.stack(3, 4, 0), -1);
        due.is("loaded already", x.load(0, 0, 0), false);
        for (int k : new int[] {-1, 1, 10, LEAST, GREATEST}) {
            due.is("stack k " + k, x.stack(3, 5, k), -1);
        }
        for (int what : new int[] {-1, 9, LEAST, GREATEST}) {
            due.none("look " + what, () -> x.look(0, what));
        }
    }

    private static void tenInAHold() {
        AmphoraYard x = new AmphoraYard();
        x.kind(1, 1, 5000);
        x.ship();
        for (int n = 0; n < 11; n++) {
            x.fire(0, 0, 1);
            due.is("load " + n, x.load(n, 0, 2), n < 10);
        }
        due.is("the eleventh stays", x.look(10, 0), 0);
        due.is("the tenth", x.stack(0, 2, 9), 9);
        due.is("no eleventh", x.stack(0, 2, 10), -1);
        due.is("in ships", x.count(3), 10);
        for (int n = 9; n >= 0; n--) {
            due.is("land " + n, x.land(0, 2), n);
            due.is("landed " + n, x.look(n, 0), 2);
        }
        due.is("none on top", x.land(0, 2), -1);
        due.is("landed", x.count(4), 10);
        due.is("in ships", x.count(3), 0);
        due.is("hold of a landed one", x.look(0, 7), -1);
        due.is("above a landed one", x.look(0, 8), 0);
        due.is("load a landed one", x.load(0, 0, 0), false);
        due.is("load the eleventh now", x.load(10, 0, 2), true);
    }

    /** A jar that bears enough for the next one may lie on one that does not bear both. */
    private static void eachJarBelowBears() {
        AmphoraYard x = new AmphoraYard();
        x.kind(10, 10, 19);
        x.kind(10, 10, 100);
        x.ship();
        x.fire(0, 0, 1);
        x.fire(1, 0, 1);
        x.fire(1, 0, 1);
        x.fire(1, 0, 1);
        x.fill(3, 9);
        due.is("onto an empty hold", x.load(0, 0, 0), true);
        due.is("10 on 19", x.load(1, 0, 0), true);
        due.is("20 on 19", x.load(2, 0, 0), false);
        due.is("it stays in the yard", x.look(2, 0), 0);
        due.is("the stack is as it was", x.stack(0, 0, 2), -1);
        due.is("land", x.land(0, 0), 1);
        due.is("19 on 19", x.load(3, 0, 0), true);
        due.is("above the lowest", x.look(0, 8), 19);
        due.is("above the top", x.look(3, 8), 0);
    }

    /** Above the three lower jars lie 21, 14 and 7; the storm is on all holds of one ship. */
    private static AmphoraYard laden() {
        AmphoraYard x = new AmphoraYard();
        x.kind(7, 7, 33);
        x.kind(7, 7, 20);
        x.kind(7, 7, 0);
        x.ship();
        x.ship();
        x.fire(0, 0, 1);
        x.fire(1, 0, 1);
        x.fire(0, 0, 1);
        x.fire(2, 0, 1);
        x.fire(1, 0, 1);
        x.fire(0, 0, 1);
        x.fire(1, 0, 1);
        x.fire(0, 0, 1);
        for (int jar = 0; jar < 4; jar++) {
            x.load(jar, 0, 1);
        }
        x.load(4, 0, 5);
        x.load(5, 0, 5);
        x.load(6, 1, 1);
        x.load(7, 1, 1);
        return x;
    }

    private static String places(AmphoraYard x) {
        StringBuilder places = new StringBuilder();
        for (int jar = 0; jar < x.count(1); jar++) {
            places.append(x.look(jar, 0));
        }
        return places.toString();
    }

    private static void storms() {
        AmphoraYard x = laden();
        for (int by : new int[] {-1, 101, LEAST, GREATEST}) {
            due.argument("storm " + by, () -> x.storm(0, by));
        }
        due.index("storm, ship 2", () -> x.storm(2, 0));
        due.is("a storm of 0", x.storm(0, 0), 0);
        // 20 less 30 hundredths is 14; 33 less 9.9, rounded up, is 23
        due.is("a storm of 30", x.storm(0, 30), 0);
        // 20 less 6.2, rounded up, is 13
        due.is("a storm of 31", x.storm(0, 31), 1);
        due.is("places", places(x), "13111111");
        due.is("the gap is closed", x.stack(0, 1, 1), 2);
        due.is("the top", x.stack(0, 1, 2), 3);
        due.is("no fourth", x.stack(0, 1, 3), -1);
        due.is("above the lowest", x.look(0, 8), 14);
        due.is("above a broken one", x.look(1, 8), 0);
        due.is("its ship", x.look(1, 6), -1);
        due.is("its hold", x.look(1, 7), -1);
        due.is("weight of a broken one", x.look(1, 5), 7);
        due.is("load a broken one", x.load(1, 1, 0), false);
        due.is("fill a broken one", x.fill(1, 1), -1);
        due.is("broken", x.count(5), 1);
        due.is("a storm of 100", x.storm(0, 100), 3);
        due.is("places", places(x), "33313111");
        due.is("a top bears nothing and holds", x.stack(0, 1, 0), 3);
        due.is("nothing is above tops", x.storm(0, 100), 0);
    }

    /** What lay above as the storm began counts, broken or not. */
    private static void stormsBreakAtOnce() {
        AmphoraYard x = laden();
        // 33 less 36 hundredths (11.88, rounded up) is 21, less 37 hundredths (12.21) is 20: 21 lay above
        due.is("a storm of 36", x.storm(0, 36), 1);
        AmphoraYard y = laden();
        due.is("a storm of 37 breaks two", y.storm(0, 37), 2);
        due.is("places", places(y), "33111111");
        due.is("another ship", y.storm(1, 65), 0);
        due.is("another ship, 66", y.storm(1, 66), 1);
        due.is("places", places(y), "33111131");
    }

    /** A hundredth of 1 is rounded up to 1: nothing is borne then. */
    private static void theLeastStorm() {
        AmphoraYard x = new AmphoraYard();
        x.kind(1, 1, 1);
        x.kind(100, 200, 5000);
        x.ship();
        x.fire(0, 0, 1);
        x.fire(0, 0, 1);
        x.load(0, 0, 0);
        x.load(1, 0, 0);
        due.is("a storm of 0", x.storm(0, 0), 0);
        due.is("a storm of 1", x.storm(0, 1), 1);
        for (int jar = 2; jar < 12; jar++) {
            x.fire(1, 0, 1);
            x.fill(jar, 200);
            due.is("load " + jar, x.load(jar, 0, 5), true);
        }
        due.is("2700 lie on 5000, less 46 hundredths", x.storm(0, 46), 0);
        due.is("2700 lie on 5000, less 47 hundredths", x.storm(0, 47), 1);
        due.is("which one", x.look(2, 0), 3);
    }

    private static void oilOfBrokenJars() {
        AmphoraYard x = new AmphoraYard();
        x.kind(1, 50, 100);
        x.ship();
        for (int jar = 0; jar < 4; jar++) {
            x.fire(0, 0, 1);
            x.fill(jar, 10 + jar);
        }
        x.load(0, 0, 0);
        x.load(1, 0, 0);
        x.load(2, 0, 1);
        x.land(0, 1);
        due.is("oil in yard, ship and landed", x.count(6), 46);
        x.storm(0, 100);
        due.is("oil without the broken one", x.count(6), 36);
        due.is("its own oil", x.look(0, 4), 10);
        due.is("yard", x.count(2), 1);
        due.is("ships", x.count(3), 1);
        due.is("landed", x.count(4), 1);
        due.is("broken", x.count(5), 1);
        due.is("jars", x.count(1), 4);
    }

    public static void main(String[] args) {
        aNewObjectIsEmpty();
        objectsAreApart();
        kinds();
        firing();
        filling();
        shipsAndHolds();
        tenInAHold();
        eachJarBelowBears();
        storms();
        stormsBreakAtOnce();
        theLeastStorm();
        oilOfBrokenJars();
        due.done();
    }
}
