/**
 * The edges of part 1 (promises 1, 4 to 13 and 29): each test bears the sentence of the document
 * that it holds the class to. That a refused call changes nothing stands in RefusedTest.
 */
public final class EdgesYardTest {
    private static final Due due = new Due();
    private static final int LEAST = Integer.MIN_VALUE;
    private static final int GREATEST = Integer.MAX_VALUE;

    /** One kind and one ship, and so many jars of it. */
    private static AmphoraYard yard(int empty, int room, int bears, int jars) {
        AmphoraYard x = new AmphoraYard();
        x.kind(empty, room, bears);
        x.ship();
        for (int jar = 0; jar < jars; jar++) {
            x.fire(0, 0, 1);
        }
        return x;
    }

    /** "An object is used for at most 512 calls": the last of them is answered as the first ones are. */
    private static void the512thCall() {
        AmphoraYard x = new AmphoraYard();
        for (int n = 1; n <= 511; n++) {
            due.is("days", x.days(1000), 1000 * n);
        }
        due.is("call 512", x.count(9), 511000);
        AmphoraYard y = new AmphoraYard();
        for (int n = 1; n <= 511; n++) {
            due.index("a refused call", () -> y.land(0, 0));
        }
        due.is("call 512 behind refused ones", y.ship(), 0);
    }

    /** 1: "An empty YARD; DAY 0." */
    private static void aNewObject() {
        for (int what = 0; what <= 9; what++) {
            due.is("count " + what, new AmphoraYard().count(what), 0);
        }
        AmphoraYard x = new AmphoraYard();
        due.index("no kind", () -> x.fire(0, 0, 1));
        due.index("no jar", () -> x.look(0, 0));
        due.index("no jar", () -> x.fill(0, 1));
        due.index("no ship", () -> x.storm(0, 0));
        due.index("no sherd", () -> x.vessel(0, 0));
        due.index("no telling", () -> Due.of(x.undo(0)));
        due.is("no byte", x.end(1), false);
        due.is("no vessel", x.vessels(-1), 0);
        due.is("nothing quarrels", x.quarrel(0), 0);
        due.is("nothing stands", x.tallest(0xFFFFF), 0);
    }

    /** "EMPTY (1 to 100)". */
    private static void empty() {
        due.takesNumber("empty", 1, 100, 0, n -> new AmphoraYard().kind(n, 1, 0));
    }

    /** "ROOM (1 to 200)". */
    private static void room() {
        due.takesNumber("room", 1, 200, 0, n -> new AmphoraYard().kind(1, n, 0));
    }

    /** "BEARS (0 to 5000)". */
    private static void bears() {
        due.takesNumber("bears", 0, 5000, 0, n -> new AmphoraYard().kind(1, 1, n));
    }

    /** "KINDS of jars (at most 8, numbered from 0 on)"; 4: "there are 8". */
    private static void eightKinds() {
        AmphoraYard x = new AmphoraYard();
        for (int n = 0; n < 8; n++) {
            due.is("kind", x.kind(n + 1, 1, 0), n);
        }
        due.full("kind 8", () -> x.kind(1, 1, 0));
        due.is("kinds", x.count(0), 8);
        due.is("a jar of the last one", x.fire(7, 0, 1), 0);
        due.is("its weight", x.look(0, 5), 8);
    }

    /** 5: there is no such KIND. */
    private static void firedOfAKind() {
        due.takesIndex("of two kinds", 1, 0, n -> {
            AmphoraYard x = new AmphoraYard();
            x.kind(1, 1, 1);
            x.kind(1, 1, 1);
            return x.fire(n, 0, 1);
        });
        due.takesIndex("of eight kinds", 7, 0, n -> {
            AmphoraYard x = new AmphoraYard();
            for (int kind = 0; kind < 8; kind++) {
                x.kind(1, 1, 1);
            }
            return x.fire(n, 0, 1);
        });
    }

    /** "fired by a MAKER (0 to 15)". */
    private static void maker() {
        due.takesNumber("maker", 0, 15, 0, n -> yard(1, 1, 1, 0).fire(0, n, 1));
        AmphoraYard x = yard(1, 1, 1, 0);
        x.fire(0, 15, 1);
        due.is("the last maker", x.look(0, 2), 15);
    }

    /** "in a YEAR (1 to 300)". */
    private static void year() {
        due.takesNumber("year", 1, 300, 0, n -> yard(1, 1, 1, 0).fire(0, 0, n));
        AmphoraYard x = yard(1, 1, 1, 0);
        x.fire(0, 0, 300);
        due.is("the last year", x.look(0, 3), 300);
    }

    /** "JARS (at most 60, numbered from 0 on)"; 5: "there are 60". */
    private static void sixtyJars() {
        AmphoraYard x = yard(1, 1, 1, 0);
        for (int n = 0; n < 60; n++) {
            due.is("jar", x.fire(0, n % 16, n + 1), n);
        }
        due.full("jar 60", () -> x.fire(0, 0, 1));
        due.is("jars", x.count(1), 60);
        due.is("the first one's year", x.look(0, 3), 1);
        due.is("the last one's year", x.look(59, 3), 60);
        due.index("look at jar 60", () -> x.look(60, 3));
        due.is("fill the last one", x.fill(59, 1), 1);
        due.is("load the last one", x.load(59, 0, 0), true);
    }

    /** A jar that left the yard is still a jar: 60 may be fired in all. */
    private static void sixtyJarsWhereverTheyAre() {
        AmphoraYard x = yard(1, 1, 5000, 60);
        x.load(0, 0, 0);
        x.load(1, 0, 0);
        x.storm(0, 100);
        x.land(0, 0);
        due.is("in the yard", x.count(2), 58);
        due.full("jar 60", () -> x.fire(0, 0, 1));
    }

    /** "with OIL (0 at first); WEIGHT: EMPTY and OIL". */
    private static void weight() {
        AmphoraYard light = yard(1, 1, 0, 1);
        due.is("oil at first", light.look(0, 4), 0);
        due.is("the least weight", light.look(0, 5), 1);
        AmphoraYard heavy = yard(100, 200, 0, 1);
        heavy.fill(0, 200);
        due.is("the most oil", heavy.look(0, 4), 200);
        due.is("the most weight", heavy.look(0, 5), 300);
    }

    /** 6: "IllegalArgumentException: not 1 to 200." */
    private static void oilOfAFill() {
        due.takesNumber("fill", 1, 200, 0, n -> yard(1, 200, 1, 1).fill(0, n) - n);
    }

    /** 6: a wrong number is thrown for where no oil could come in, too. */
    private static void oilOfAFillOutOfTheYard() {
        for (int jar = 2; jar <= 4; jar++) {
            int j = jar;
            due.argument("fill 0", () -> Worlds.some().fill(j, 0));
            due.argument("fill 201", () -> Worlds.some().fill(j, 201));
        }
    }

    /** 6: "NONE .. if it .. has no ROOM for it": the room may be filled up, by one fill or by more. */
    private static void roomOfAFill() {
        for (int room : new int[] {1, 2, 50, 199, 200}) {
            due.is("all the room", yard(1, room, 1, 1).fill(0, room), room);
            if (room < 200) {
                due.is("one too many", yard(1, room, 1, 1).fill(0, room + 1), -1);
                due.is("the most", yard(1, room, 1, 1).fill(0, 200), -1);
            }
            AmphoraYard x = yard(1, room, 1, 1);
            x.fill(0, room);
            due.is("no room", x.fill(0, 1), -1);
            due.is("oil", x.look(0, 4), room);
        }
        AmphoraYard y = yard(1, 10, 1, 1);
        due.is("by more: 9", y.fill(0, 9), 9);
        due.is("by more: 2", y.fill(0, 2), -1);
        due.is("by more: 1", y.fill(0, 1), 10);
    }

    /** 6: "NONE .. if it is not in the YARD". */
    private static void fillOutOfTheYard() {
        due.is("broken", Worlds.some().fill(2, 1), -1);
        due.is("in a ship", Worlds.some().fill(3, 1), -1);
        due.is("landed", Worlds.some().fill(4, 1), -1);
        due.is("in the yard", Worlds.some().fill(0, 1), 1);
    }

    /** "SHIPS (at most 4, numbered from 0 on)"; 7: "there are 4". */
    private static void fourShips() {
        AmphoraYard x = new AmphoraYard();
        for (int n = 0; n < 4; n++) {
            int next = n;
            due.index("storm on ship " + n, () -> x.storm(next, 0));
            due.is("ship", x.ship(), n);
            due.is("storm on ship " + n, x.storm(n, 100), 0);
        }
        due.full("ship 4", x::ship);
        due.index("storm on ship 4", () -> x.storm(4, 0));
    }

    /** 7: "A SHIP with empty HOLDS". */
    private static void aShipIsEmpty() {
        AmphoraYard x = yard(1, 1, 1, 1);
        x.load(0, 0, 0);
        x.ship();
        for (int hold = 0; hold < 6; hold++) {
            due.is("stack", x.stack(1, hold, 0), -1);
            due.is("land", x.land(1, hold), -1);
        }
    }

    /** 8, 9, 10, 12: there is no such SHIP. */
    private static void whichShip() {
        due.takesIndex("load", 3, 1, n -> Due.of(Worlds.full().load(59, n, 1)));
        due.takesIndex("land", 3, -1, n -> Worlds.full().land(n, 1));
        due.takesIndex("storm", 3, 0, n -> Worlds.full().storm(n, 0));
        due.takesIndex("stack", 3, -1, n -> Worlds.full().stack(n, 1, 0));
        due.takesIndex("load, two ships", 1, 1, n -> Due.of(Worlds.some().load(0, n, 0)));
    }

    /** "HOLDS 0 to 5": 8, 9, 12: there is no such HOLD. */
    private static void whichHold() {
        due.takesIndex("load", 5, 1, n -> Due.of(Worlds.full().load(59, 3, n)));
        due.takesIndex("land", 5, -1, n -> Worlds.full().land(3, n));
        due.takesIndex("stack", 5, -1, n -> Worlds.full().stack(3, n, 0));
    }

    /** 6, 8, 11: there is no such JAR. */
    private static void whichJar() {
        due.takesIndex("fill", 5, 1, n -> yard(1, 1, 1, 6).fill(n, 1));
        due.takesIndex("look", 5, 0, n -> Worlds.some().look(n, 1));
        due.takesIndex("look, sixty", 59, 0, n -> Worlds.full().look(n, 4));
        due.takesIndex("load, two jars", 1, 1, n -> Due.of(yard(1, 1, 1, 2).load(n, 0, 0)));
    }

    /** "in each a stack of at most 10 JARS"; 8: "or there are 10". */
    private static void tenInAHold() {
        AmphoraYard x = yard(1, 1, 5000, 23);
        for (int n = 0; n < 10; n++) {
            due.is("load", x.load(n, 0, 5), true);
        }
        due.is("an eleventh", x.load(10, 0, 5), false);
        due.is("in another hold", x.load(10, 0, 4), true);
        x.land(0, 5);
        due.is("the place of a landed one", x.load(11, 0, 5), true);
        due.is("no more", x.load(12, 0, 5), false);
        due.is("a storm breaks all but the tops", x.storm(0, 100), 9);
        for (int n = 12; n < 21; n++) {
            due.is("the place of a broken one", x.load(n, 0, 5), true);
        }
        due.is("no more", x.load(21, 0, 5), false);
    }

    /** "if each JAR below it .. has at most BEARS of its KIND above it": just BEARS, and one more. */
    private static void justWhatItBears() {
        for (int bears : new int[] {1, 2, 99, 100}) {
            AmphoraYard x = yard(1, 200, bears, 2);
            if (bears > 1) {
                x.fill(1, bears - 1);
            }
            x.load(0, 0, 0);
            due.is("just " + bears, x.load(1, 0, 0), true);
            AmphoraYard y = yard(1, 200, bears, 2);
            y.fill(1, bears);
            y.load(0, 0, 0);
            due.is("one more than " + bears, y.load(1, 0, 0), false);
        }
    }

    /** The same where BEARS is 0: nothing may come onto it, and it may come onto others. */
    private static void bearsNothing() {
        AmphoraYard x = yard(1, 1, 0, 2);
        x.kind(1, 1, 1);
        x.fire(1, 0, 1);
        due.is("onto nothing", x.load(0, 0, 0), true);
        due.is("the lightest onto it", x.load(1, 0, 0), false);
        x.load(2, 0, 1);
        due.is("onto one that bears", x.load(1, 0, 1), true);
    }

    /** "each JAR below it .. in WEIGHT together": the lowest bears all, the middle one its own. */
    private static void allBelowBear() {
        for (int more = 0; more <= 1; more++) {
            AmphoraYard lowest = yard(10, 50, 35, 1);
            lowest.kind(10, 50, 5000);
            lowest.fire(1, 0, 1);
            lowest.fire(1, 0, 1);
            lowest.fill(2, 15 + more);
            lowest.load(0, 0, 0);
            lowest.load(1, 0, 0);
            due.is("the lowest, more " + more, lowest.load(2, 0, 0), more == 0);
            AmphoraYard middle = yard(10, 50, 25, 1);
            middle.kind(10, 50, 5000);
            middle.fire(1, 0, 1);
            middle.fire(1, 0, 1);
            middle.fill(2, 15 + more);
            middle.load(1, 0, 0);
            middle.load(0, 0, 0);
            due.is("the middle one, more " + more, middle.load(2, 0, 0), more == 0);
        }
    }

    /** 8: "false .. if it .. is not in the YARD". */
    private static void loadOutOfTheYard() {
        due.is("broken", Worlds.some().load(2, 0, 1), false);
        due.is("in a ship", Worlds.some().load(3, 0, 1), false);
        due.is("landed", Worlds.some().load(4, 0, 1), false);
        due.is("in the yard", Worlds.some().load(0, 0, 1), true);
    }

    /** 9: "NONE without one": a hold that was always empty, or is empty again. */
    private static void landOfNothing() {
        AmphoraYard x = yard(1, 1, 5000, 2);
        due.is("empty", x.land(0, 0), -1);
        x.load(0, 0, 0);
        x.load(1, 0, 0);
        due.is("the top", x.land(0, 0), 1);
        due.is("the last one", x.land(0, 0), 0);
        due.is("empty again", x.land(0, 0), -1);
        due.is("landed", x.count(4), 2);
    }

    /** "A STORM (0 to 100)"; 10: "it is not 0 to 100". */
    private static void stormNumbers() {
        due.takesNumber("storm", 0, 100, 0, n -> yard(1, 1, 1, 0).storm(0, n));
    }

    /** A storm of 0 breaks none, as each has at most BEARS above it; nor does one meet other ships. */
    private static void stormOfNothing() {
        AmphoraYard x = yard(1, 1, 1, 2);
        x.ship();
        x.load(0, 0, 0);
        x.load(1, 0, 0);
        due.is("just what it bears", x.storm(0, 0), 0);
        due.is("another ship", x.storm(1, 100), 0);
        due.is("both in the ship", x.count(3), 2);
    }

    /** In a storm of 100 each bears nothing: all are broken but the tops. */
    private static void theGreatestStorm() {
        AmphoraYard x = yard(1, 1, 5000, 14);
        for (int jar = 0; jar < 10; jar++) {
            x.load(jar, 0, 0);
        }
        x.load(10, 0, 5);
        x.load(11, 0, 5);
        x.load(12, 0, 2);
        due.is("broken", x.storm(0, 100), 10);
        due.is("a top", x.stack(0, 0, 0), 9);
        due.is("a top of two", x.stack(0, 5, 0), 11);
        due.is("one alone", x.stack(0, 2, 0), 12);
        due.is("in the yard", x.look(13, 0), 0);
    }

    /** "more above it than BEARS less STORM hundredths of it": just so much does not break it. */
    private static void justWhatItBearsInAStorm() {
        // 100 bears 60 in a storm of 40, 59 in one of 41
        AmphoraYard x = yard(10, 50, 100, 2);
        x.fill(1, 50);
        x.load(0, 0, 0);
        x.load(1, 0, 0);
        due.is("60 in a storm of 40", x.storm(0, 40), 0);
        due.is("60 in a storm of 41", x.storm(0, 41), 1);
    }

    /** "(rounded up)": of 50 a storm of 1 takes 0.5, which is 1; one of 3 takes 1.5, which is 2. */
    private static void hundredthsAreRoundedUp() {
        int[][] storms = {{1, 49}, {2, 49}, {3, 48}, {4, 48}, {5, 47}, {98, 1}, {99, 0}, {100, 0}};
        for (int[] s : storms) {
            for (int above = Math.max(1, s[1]); above <= s[1] + 1; above++) {
                AmphoraYard x = yard(1, 200, 50, 2);
                if (above > 1) {
                    x.fill(1, above - 1);
                }
                x.load(0, 0, 0);
                x.load(1, 0, 0);
                due.is(above + " on 50 in a storm of " + s[0], x.storm(0, s[0]), above > s[1] ? 1 : 0);
            }
        }
    }

    /** The same of the least and the most that a jar can bear: a hundredth of 1 is 1. */
    private static void hundredthsOfLeastAndMost() {
        AmphoraYard x = yard(1, 1, 1, 2);
        x.load(0, 0, 0);
        x.load(1, 0, 0);
        due.is("1 on 1 in a storm of 1", x.storm(0, 1), 1);
        AmphoraYard y = yard(100, 200, 5000, 10);
        for (int jar = 0; jar < 10; jar++) {
            y.fill(jar, 200);
            y.load(jar, 0, 0);
        }
        due.is("2700 on 5000 in a storm of 46", y.storm(0, 46), 0);
        due.is("2700 on 5000 in a storm of 47", y.storm(0, 47), 1);
    }

    /** "by what lay above it as the STORM began, the BROKEN ones too". */
    private static void brokenOnesLayAbove() {
        AmphoraYard x = yard(10, 10, 40, 1);
        x.kind(10, 10, 10);
        x.fire(1, 0, 1);
        x.fire(1, 0, 1);
        for (int jar = 0; jar < 3; jar++) {
            x.load(jar, 0, 0);
        }
        // of 40 there are 20 left, and 20 lie above; of 10 there are 5 left, and 10 lie above
        due.is("a storm of 50", x.storm(0, 50), 1);
        due.is("the middle one", x.look(1, 0), 3);
        AmphoraYard y = yard(10, 10, 40, 1);
        y.kind(10, 10, 10);
        y.fire(1, 0, 1);
        y.fire(1, 0, 1);
        for (int jar = 0; jar < 3; jar++) {
            y.load(jar, 0, 0);
        }
        due.is("a storm of 51", y.storm(0, 51), 2);
        due.is("the lowest, too", y.look(0, 0), 3);
    }

    /** "it is out of its stack": those above it come down onto those below it. */
    private static void brokenOnesLeaveTheStack() {
        AmphoraYard x = yard(1, 1, 5000, 1);
        x.kind(1, 1, 2);
        x.fire(1, 0, 1);
        x.fire(0, 0, 1);
        x.fire(0, 0, 1);
        for (int jar = 0; jar < 4; jar++) {
            x.load(jar, 0, 3);
        }
        due.is("one of them", x.storm(0, 1), 1);
        int[] stack = {0, 2, 3, -1};
        for (int k = 0; k < stack.length; k++) {
            due.is("stack " + k, x.stack(0, 3, k), stack[k]);
        }
        due.is("above the lowest", x.look(0, 8), 2);
        int[] broken = {3, 1, 0, 1, 0, 1, -1, -1, 0};
        for (int what = 0; what < broken.length; what++) {
            due.is("look(1, " + what + ")", x.look(1, what), broken[what]);
        }
        due.is("it lands no more", x.land(0, 3), 3);
    }

    /** 11: "NoSuchElementException: another what", wherever the jar is. */
    private static void lookWhat() {
        for (int jar = 0; jar < 6; jar++) {
            int j = jar;
            for (int what = 0; what <= 8; what++) {
                int w = what;
                due.is("look " + what, Due.outcome(() -> Worlds.some().look(j, w)).startsWith("throws"), false);
            }
            for (int what : new int[] {-1, 9, LEAST, GREATEST}) {
                due.none("look " + what, () -> Worlds.some().look(j, what));
            }
        }
    }

    /** 11: "6 SHIP (NONE), 7 HOLD (NONE), 8 what is above it (0 if it is in no SHIP)". */
    private static void lookAtNoShip() {
        AmphoraYard x = Worlds.some();
        for (int jar : new int[] {0, 2, 4, 5}) {
            due.is("ship of " + jar, x.look(jar, 6), -1);
            due.is("hold of " + jar, x.look(jar, 7), -1);
            due.is("above " + jar, x.look(jar, 8), 0);
        }
        due.is("ship of 3", x.look(3, 6), 1);
        due.is("hold of 3", x.look(3, 7), 4);
        due.is("above 3, a top", x.look(3, 8), 0);
        AmphoraYard first = yard(1, 1, 1, 1);
        first.load(0, 0, 0);
        due.is("the first ship", first.look(0, 6), 0);
        due.is("the first hold", first.look(0, 7), 0);
    }

    /** 11: what 8 from the lowest to the top of a full hold. */
    private static void lookAbove() {
        AmphoraYard x = yard(2, 10, 5000, 10);
        x.fill(9, 10);
        for (int jar = 0; jar < 10; jar++) {
            x.load(jar, 0, 0);
        }
        due.is("above the lowest", x.look(0, 8), 28);
        due.is("above the ninth", x.look(8, 8), 12);
        due.is("above the top", x.look(9, 8), 0);
    }

    /** 12: "NONE if there is none such": below 0, at the height and beyond it. */
    private static void stackPlaces() {
        AmphoraYard x = Worlds.full();
        due.is("the lowest", x.stack(0, 0, 0), 0);
        due.is("the tenth", x.stack(0, 0, 9), 9);
        for (int k : new int[] {-1, 10, 11, LEAST, GREATEST}) {
            due.is("k " + k, x.stack(0, 0, k), -1);
            due.is("k " + k + " of the last hold", x.stack(3, 5, k), -1);
        }
        due.is("an empty hold", x.stack(0, 1, 0), -1);
        x.land(0, 0);
        due.is("the place of a landed one", x.stack(0, 0, 9), -1);
        due.is("the new top", x.stack(0, 0, 8), 8);
    }

    /** "A set of the first 20 JARS, as bits": jar 19 is in it, jar 20 and the sign are not. */
    private static void firstTwentyJars() {
        AmphoraYard x = yard(1, 1, 5000, 40);
        due.is("jar 0", x.tallest(1), 1);
        due.is("jar 19", x.tallest(1 << 19), 1);
        due.is("jar 20", x.tallest(1 << 20), 0);
        due.is("jar 31", x.tallest(1 << 31), 0);
        due.is("18, 19 and all beyond", x.tallest(-1 << 18), 2);
        due.is("the empty set", x.tallest(0), 0);
    }

    /** "of them at most 12 that are in the YARD"; 13: "more than 12 of it are in the YARD". */
    private static void atMostTwelve() {
        AmphoraYard x = yard(1, 1, 5000, 20);
        due.is("12", x.tallest(0xFFF), 12);
        due.is("12 others", x.tallest(0xFFF00), 12);
        due.argument("13", () -> x.tallest(0x1FFF));
        due.argument("13 others", () -> x.tallest(0xFFF80));
        due.argument("20", () -> x.tallest(0xFFFFF));
        due.argument("all bits", () -> x.tallest(-1));
    }

    /** The same: those that are in a ship, landed or broken are not of the 12, nor do they stand. */
    private static void twelveInTheYard() {
        AmphoraYard x = yard(1, 1, 5000, 15);
        x.load(0, 0, 0);
        x.load(1, 0, 0);
        due.argument("13 of 15", () -> x.tallest(0x7FFF));
        x.storm(0, 100);
        x.land(0, 0);
        x.load(2, 0, 0);
        due.is("broken, landed, in a ship", x.look(0, 0) * 100 + x.look(1, 0) * 10 + x.look(2, 0), 321);
        due.is("12 of 15", x.tallest(0x7FFF), 12);
        due.is("none of 3", x.tallest(7), 0);
    }

    /** "so that none bears too much": just BEARS is not too much; none need stand on another one. */
    private static void tallestAtTheEdge() {
        due.is("none bears", yard(1, 1, 0, 3).tallest(7), 1);
        due.is("each bears one", yard(1, 1, 1, 3).tallest(7), 2);
        due.is("each bears two", yard(1, 1, 2, 3).tallest(7), 3);
        due.is("none bears the next one", yard(2, 1, 1, 3).tallest(7), 1);
        due.is("one alone", yard(100, 200, 0, 1).tallest(1), 1);
    }

    /** "in some order", not that of their numbers: the weak one may be the first, the last or between. */
    private static void tallestInSomeOrder() {
        int[][] orders = {{0, 1, 2}, {0, 2, 1}, {1, 0, 2}, {1, 2, 0}, {2, 0, 1}, {2, 1, 0}};
        for (int[] kinds : orders) {
            AmphoraYard x = new AmphoraYard();
            x.kind(10, 1, 0);
            x.kind(20, 1, 10);
            x.kind(5, 1, 30);
            for (int kind : kinds) {
                x.fire(kind, 0, 1);
            }
            due.is("all three", x.tallest(7), 3);
        }
    }

    /** 29: "NONE for another what". */
    private static void countWhat() {
        for (int what : new int[] {-1, 10, LEAST, GREATEST}) {
            due.is("count " + what, Worlds.full().count(what), -1);
        }
    }

    /** 29, of full rows. */
    private static void countOfFullRows() {
        int[] want = {8, 60, 50, 10, 0, 0, 0, 60, 60, 0};
        for (int what = 0; what < want.length; what++) {
            due.is("count " + what, Worlds.full().count(what), want[what]);
        }
    }

    /** 29, of something of all; "6 OIL of all that are not BROKEN". */
    private static void countOfSome() {
        int[] want = {2, 6, 3, 1, 1, 1, 80, 4, 4, 7};
        for (int what = 0; what < want.length; what++) {
            due.is("count " + what, Worlds.some().count(what), want[what]);
        }
        AmphoraYard x = yard(1, 200, 5000, 60);
        for (int jar = 0; jar < 60; jar++) {
            x.fill(jar, 200);
        }
        due.is("the most oil", x.count(6), 12000);
        x.load(0, 0, 0);
        x.load(1, 0, 0);
        due.is("in a ship", x.count(6), 12000);
        x.storm(0, 100);
        due.is("one broken", x.count(6), 11800);
        x.land(0, 0);
        due.is("one landed", x.count(6), 11800);
    }

    private static void numbersAndRows() {
        the512thCall();
        aNewObject();
        empty();
        room();
        bears();
        eightKinds();
        firedOfAKind();
        maker();
        year();
        sixtyJars();
        sixtyJarsWhereverTheyAre();
        weight();
        oilOfAFill();
        oilOfAFillOutOfTheYard();
        roomOfAFill();
        fillOutOfTheYard();
        fourShips();
        aShipIsEmpty();
        whichShip();
        whichHold();
        whichJar();
    }

    private static void stacksAndStorms() {
        tenInAHold();
        justWhatItBears();
        bearsNothing();
        allBelowBear();
        loadOutOfTheYard();
        landOfNothing();
        stormNumbers();
        stormOfNothing();
        theGreatestStorm();
        justWhatItBearsInAStorm();
        hundredthsAreRoundedUp();
        hundredthsOfLeastAndMost();
        brokenOnesLayAbove();
        brokenOnesLeaveTheStack();
    }

    public static void main(String[] args) {
        numbersAndRows();
        stacksAndStorms();
        lookWhat();
        lookAtNoShip();
        lookAbove();
        stackPlaces();
        firstTwentyJars();
        atMostTwelve();
        twelveInTheYard();
        tallestAtTheEdge();
        tallestInSomeOrder();
        countWhat();
        countOfFullRows();
        countOfSome();
        due.done();
    }
}
