/**
 * The edges of part 4 (promises 22 to 28): each test bears the sentence of the document that it
 * holds the class to. That a refused call changes nothing stands in RefusedTest.
 */
public final class EdgesYearsTest {
    private static final Due due = new Due();
    private static final int LEAST = Integer.MIN_VALUE;
    private static final int GREATEST = Integer.MAX_VALUE;

    /** A year that stamp 0 has, told as at least and at most. */
    private static AmphoraYard known(int year) {
        AmphoraYard x = new AmphoraYard();
        x.bound(0, year, false);
        x.bound(0, year, true);
        return x;
    }

    private static void both(String what, AmphoraYard x, int stamp, int least, int greatest) {
        due.is(what + ", least", Due.outcome(() -> x.span(stamp, false, x.count(9))), String.valueOf(least));
        due.is(what + ", greatest", Due.outcome(() -> x.span(stamp, true, x.count(9))), String.valueOf(greatest));
    }

    /** "at least so many (- 500 to 500) more"; 22: "years are none". */
    private static void yearsBetween() {
        due.takesNumber("tell", -500, 500, 0, n -> new AmphoraYard().tell(0, 1, n));
        for (int years : new int[] {-500, -1, 0, 1, 500}) {
            AmphoraYard x = known(600);
            x.tell(0, 1, years);
            due.is("least of the later one", x.span(1, false, 0), 600 + years);
            due.none("greatest of the later one", () -> x.span(1, true, 0));
            AmphoraYard y = known(600);
            y.tell(1, 0, years);
            due.is("greatest of the earlier one", y.span(1, true, 0), 600 - years);
            due.none("least of the earlier one", () -> y.span(1, false, 0));
        }
    }

    /** "at least, or at most, a YEAR (0 to 1000)"; 23: "the YEAR is none". */
    private static void boundYears() {
        due.takesNumber("at least", 0, 1000, 0, n -> new AmphoraYard().bound(0, n, false));
        due.takesNumber("at most", 0, 1000, 0, n -> new AmphoraYard().bound(0, n, true));
        both("year 0", known(0), 0, 0, 0);
        both("year 1000", known(1000), 0, 1000, 1000);
    }

    /** 22, 23, 27: there is no such STAMP (0 to 11). */
    private static void whichStamp() {
        due.takesIndex("tell, earlier", 11, 0, n -> new AmphoraYard().tell(n, n == 5 ? 6 : 5, 0));
        due.takesIndex("tell, later", 11, 0, n -> new AmphoraYard().tell(n == 5 ? 6 : 5, n, 0));
        due.takesIndex("bound, at most", 11, 0, n -> new AmphoraYard().bound(n, 0, true));
        due.takesIndex("bound, at least", 11, 0, n -> new AmphoraYard().bound(n, 0, false));
        due.takesIndex("span", 11, 9, n -> {
            AmphoraYard x = new AmphoraYard();
            x.bound(0, 9, false);
            for (int stamp = 1; stamp < 12; stamp++) {
                x.tell(0, stamp, 0);
            }
            return x.span(n, false, 0);
        });
        due.index("span of 12, none told", () -> new AmphoraYard().span(12, false, 0));
    }

    /** 22: "they are one". */
    private static void oneStamp() {
        for (int stamp = 0; stamp < 12; stamp++) {
            int s = stamp;
            due.argument("tell of one", () -> new AmphoraYard().tell(s, s, 0));
            due.argument("that would hold", () -> new AmphoraYard().tell(s, s, -500));
        }
    }

    /** "TELLINGS (at most 60, numbered from 0 on)"; 22: "there are 60". */
    private static void sixtyTold() {
        AmphoraYard x = new AmphoraYard();
        for (int n = 0; n < 60; n++) {
            due.is("tell", x.tell(0, 1, n), n);
        }
        due.full("tell 60", () -> x.tell(0, 1, 0));
        due.full("bound 60", () -> x.bound(0, 1, true));
        due.is("tellings", x.count(8), 60);
    }

    /** 23: "there are 60": both kinds of tellings are counted in one row. */
    private static void sixtyBounds() {
        AmphoraYard x = new AmphoraYard();
        for (int n = 0; n < 60; n++) {
            due.is("bound", x.bound(n % 12, n, false), n);
        }
        due.full("bound 60", () -> x.bound(0, 1, true));
        due.full("tell 60", () -> x.tell(0, 1, 0));
        due.is("the last one holds", x.span(11, false, 0), 59);
    }

    /** The same when they are taken back: they are tellings still. */
    private static void sixtyTakenBack() {
        AmphoraYard x = new AmphoraYard();
        for (int n = 0; n < 60; n++) {
            x.tell(0, 1, n);
            due.is("undo", x.undo(n), true);
        }
        due.full("tell 60", () -> x.tell(0, 1, 0));
        due.is("tellings", x.count(8), 60);
    }

    /** "Each is known from the DAY on which it is told (DAY is 0 at first)". */
    private static void knownFromItsDay() {
        AmphoraYard x = new AmphoraYard();
        x.bound(0, 5, false);
        due.none("the day ahead of the first one", () -> x.span(0, false, -1));
        due.is("the first day", x.span(0, false, 0), 5);
        x.days(10);
        x.bound(0, 6, false);
        due.is("the day ahead", x.span(0, false, 9), 5);
        due.is("its day", x.span(0, false, 10), 6);
        due.is("the day behind", x.span(0, false, 11), 6);
        due.is("all days to come", x.span(0, false, GREATEST), 6);
        due.none("the least of days", () -> x.span(0, false, LEAST));
    }

    /** "up to, but not on, the DAY on which it is taken back". */
    private static void takenBackOnADay() {
        AmphoraYard x = new AmphoraYard();
        x.bound(0, 5, false);
        x.days(10);
        x.undo(0);
        due.is("the day ahead", x.span(0, false, 9), 5);
        due.none("that day", () -> x.span(0, false, 10));
        due.none("the day behind", () -> x.span(0, false, 11));
    }

    /** The same for one that is told and taken back on one day: it is known on none. */
    private static void takenBackOnItsDay() {
        AmphoraYard x = new AmphoraYard();
        x.days(3);
        x.bound(0, 5, false);
        x.undo(0);
        for (int day = 2; day <= 4; day++) {
            int d = day;
            due.none("day " + day, () -> x.span(0, false, d));
        }
    }

    /** 24: there is no such TELLING. */
    private static void whichTelling() {
        due.takesIndex("undo", 59, 1, n -> Due.of(Worlds.full().undo(n)));
        due.takesIndex("undo of two", 1, 1, n -> Due.of(known(5).undo(n)));
        due.index("undo of none", () -> Due.of(new AmphoraYard().undo(0)));
    }

    /** 24: "whether it was not": a second time is too late, and does not change its day. */
    private static void undoTwice() {
        AmphoraYard x = new AmphoraYard();
        x.bound(0, 5, false);
        x.days(2);
        due.is("the first time", x.undo(0), true);
        due.is("on that day", x.undo(0), false);
        x.days(2);
        due.is("on another day", x.undo(0), false);
        due.is("known on day 1", x.span(0, false, 1), 5);
        due.none("not on day 2", () -> x.span(0, false, 2));
        due.none("nor on day 3", () -> x.span(0, false, 3));
    }

    /** 25: "not 0 to 1000". */
    private static void days() {
        due.takesNumber("days", 0, 1000, 0, n -> new AmphoraYard().days(n) - n);
        AmphoraYard x = new AmphoraYard();
        due.is("1000", x.days(1000), 1000);
        due.is("none", x.days(0), 1000);
        due.is("1000 more", x.days(1000), 2000);
        due.is("the day", x.count(9), 2000);
    }

    /** 26: with none known they agree. */
    private static void noneKnown() {
        for (int day : new int[] {LEAST, -1, 0, 1, GREATEST}) {
            AmphoraYard x = new AmphoraYard();
            due.is("agree", x.agree(day), true);
            due.is("quarrel", x.quarrel(day), 0);
            due.none("least", () -> x.span(0, false, day));
            due.none("greatest", () -> x.span(0, true, day));
        }
    }

    /** "if YEARS .. can be found by which all known ones hold": just so, and one year more. */
    private static void justAgreeing() {
        AmphoraYard bounds = known(500);
        due.is("at least and at most 500", bounds.agree(0), true);
        bounds.bound(0, 501, false);
        due.is("at least 501", bounds.agree(0), false);
        AmphoraYard ring = new AmphoraYard();
        ring.tell(0, 1, 10);
        ring.tell(1, 0, -10);
        due.is("a ring of 0 years", ring.agree(0), true);
        ring.tell(1, 0, -9);
        due.is("a ring of 1 year", ring.agree(0), false);
        AmphoraYard mixed = new AmphoraYard();
        mixed.bound(0, 1000, true);
        mixed.bound(1, 500, false);
        mixed.tell(1, 0, 500);
        due.is("500 and 500 at most 1000", mixed.agree(0), true);
        mixed.bound(1, 501, false);
        due.is("501 and 500 at most 1000", mixed.agree(0), false);
    }

    /** "YEARS (whole numbers, any)": below 0 and above 1000, too. */
    private static void anyYears() {
        AmphoraYard low = new AmphoraYard();
        low.bound(0, 0, true);
        low.tell(1, 0, 500);
        due.is("below 0", low.span(1, true, 0), -500);
        AmphoraYard high = new AmphoraYard();
        high.bound(0, 1000, false);
        high.tell(0, 1, 500);
        due.is("above 1000", high.span(1, false, 0), 1500);
        AmphoraYard just = known(0);
        just.tell(0, 1, -1);
        just.tell(1, 0, 1);
        both("just - 1, the number of NONE", just, 1, -1, -1);
    }

    /** The farthest years: eleven tellings of 500 from a bound. */
    private static void farthestYears() {
        AmphoraYard up = new AmphoraYard();
        AmphoraYard down = new AmphoraYard();
        for (int stamp = 10; stamp >= 0; stamp--) {
            up.tell(stamp, stamp + 1, 500);
            down.tell(10 - stamp, 11 - stamp, 500);
        }
        up.bound(0, 1000, false);
        due.is("the most", up.span(11, false, 0), 6500);
        down.bound(11, 0, true);
        due.is("the fewest", down.span(0, true, 0), -5500);
    }

    /** "none, if there is no such bound": neither, the one, the other. */
    private static void noSuchBound() {
        AmphoraYard x = new AmphoraYard();
        x.tell(0, 1, 5);
        due.none("least, without bounds", () -> x.span(1, false, 0));
        due.none("greatest, without bounds", () -> x.span(0, true, 0));
        x.bound(0, 7, false);
        due.is("least of the later one", x.span(1, false, 0), 12);
        due.none("greatest of the later one", () -> x.span(1, true, 0));
        x.bound(1, 20, true);
        both("the earlier one", x, 0, 7, 15);
        both("the later one", x, 1, 12, 20);
        due.none("a stamp apart", () -> x.span(2, false, 0));
    }

    /** "or they do not AGREE": no stamp has a bound then, those apart from the quarrel neither. */
    private static void boundsWhereTheyQuarrel() {
        AmphoraYard x = known(5);
        x.days(1);
        x.tell(8, 9, 1);
        x.tell(9, 8, 0);
        for (int stamp = 0; stamp < 12; stamp++) {
            int s = stamp;
            due.none("least " + stamp, () -> x.span(s, false, 1));
            due.none("greatest " + stamp, () -> x.span(s, true, 1));
        }
        due.is("the day ahead of the quarrel", x.span(0, true, 0), 5);
        x.days(1);
        x.undo(2);
        both("when it is over", x, 0, 5, 5);
    }

    /** The tightest of several bounds is the one that holds. */
    private static void severalBounds() {
        AmphoraYard x = new AmphoraYard();
        for (int year : new int[] {10, 30, 20}) {
            x.bound(0, year, false);
            x.bound(0, 100 - year, true);
        }
        both("three of each", x, 0, 30, 70);
        x.tell(0, 1, 3);
        x.tell(0, 1, 5);
        x.tell(0, 1, 4);
        due.is("three tellings", x.span(1, false, 0), 35);
    }

    /** "A QUARREL: the fewest known TELLINGS that cannot all hold": each number that there can be. */
    private static void quarrelsOfAllLengths() {
        for (int length = 2; length <= 12; length++) {
            AmphoraYard x = new AmphoraYard();
            for (int stamp = 0; stamp < length; stamp++) {
                x.tell(stamp, (stamp + 1) % length, stamp == 0 ? 1 : 0);
            }
            due.is("a ring of " + length, x.quarrel(0), length);
            x.undo(length - 1);
            due.is("a ring with a gap", x.quarrel(0), 0);
        }
        for (int stamps = 1; stamps <= 12; stamps++) {
            AmphoraYard x = new AmphoraYard();
            x.bound(stamps - 1, 500, true);
            for (int stamp = 0; stamp < stamps - 1; stamp++) {
                x.tell(stamp, stamp + 1, 0);
            }
            x.bound(0, 501, false);
            due.is("bounds over " + stamps, x.quarrel(0), stamps + 1);
        }
    }

    /** "the fewest": of several quarrels the smallest is told, wherever it is and whenever it was told. */
    private static void fewestOfSeveral() {
        for (int turn = 0; turn < 2; turn++) {
            AmphoraYard x = new AmphoraYard();
            for (int part = 0; part < 2; part++) {
                boolean three = part == turn;
                int first = three ? 0 : 6;
                x.tell(first, first + 1, 1);
                x.tell(first + 1, first + 2, 0);
                x.tell(first + 2, three ? first : first + 3, 0);
                x.tell(first + 3, first, 0);
            }
            due.is("of 3 and 4", x.quarrel(0), 3);
        }
    }

    /** The same: a ring of 0 years, or of fewer, is none of those that cannot hold. */
    private static void ringsThatHoldAreNoQuarrel() {
        for (int years = -1; years <= 0; years++) {
            AmphoraYard x = new AmphoraYard();
            x.tell(0, 1, 7);
            x.tell(1, 0, years - 7);
            due.is("a ring of " + years, x.quarrel(0), 0);
            x.tell(2, 3, 1);
            x.tell(3, 4, 0);
            x.tell(4, 2, 0);
            due.is("and one of 1", x.quarrel(0), 3);
        }
    }

    /** "0 if they AGREE"; and as known on a day. */
    private static void quarrelsOfDays() {
        AmphoraYard x = new AmphoraYard();
        x.bound(0, 10, false);
        x.days(1);
        x.bound(0, 9, true);
        x.days(1);
        x.undo(1);
        int[] want = {0, 0, 2, 0, 0};
        for (int day = -1; day <= 3; day++) {
            due.is("quarrel on " + day, x.quarrel(day), want[day + 1]);
            due.is("agree on " + day, x.agree(day), want[day + 1] == 0);
        }
    }

    /** All 60 quarrel with one another: the fewest are two. */
    private static void sixtyThatQuarrel() {
        AmphoraYard x = new AmphoraYard();
        for (int n = 0; n < 30; n++) {
            x.tell(n % 12, (n + 1) % 12, 500);
            x.tell((n + 1) % 12, n % 12, 500);
        }
        due.is("quarrel", x.quarrel(0), 2);
        due.is("agree", x.agree(0), false);
    }

    private static void tellings() {
        yearsBetween();
        boundYears();
        whichStamp();
        oneStamp();
        sixtyTold();
        sixtyBounds();
        sixtyTakenBack();
        knownFromItsDay();
        takenBackOnADay();
        takenBackOnItsDay();
        whichTelling();
        undoTwice();
        days();
    }

    public static void main(String[] args) {
        tellings();
        noneKnown();
        justAgreeing();
        anyYears();
        farthestYears();
        noSuchBound();
        boundsWhereTheyQuarrel();
        severalBounds();
        quarrelsOfAllLengths();
        fewestOfSeveral();
        ringsThatHoldAreNoQuarrel();
        quarrelsOfDays();
        sixtyThatQuarrel();
        due.done();
    }
}
