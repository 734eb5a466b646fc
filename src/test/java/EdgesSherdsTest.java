/**
 * The edges of part 3 (promises 18 to 21): each test bears the sentence of the document that it
 * holds the class to. That a refused call changes nothing stands in RefusedTest.
 */
public final class EdgesSherdsTest {
    private static final Due due = new Due();
    private static final int LEAST = Integer.MIN_VALUE;
    private static final int GREATEST = Integer.MAX_VALUE;

    /** So many sherds of one clay without a stamp. */
    private static AmphoraYard plain(int sherds) {
        AmphoraYard x = new AmphoraYard();
        for (int n = 0; n < sherds; n++) {
            x.sherd(3, -1);
        }
        return x;
    }

    /** "a CLAY (0 to 15)"; 18: "CLAY is none". */
    private static void clay() {
        due.takesNumber("clay", 0, 15, 0, n -> new AmphoraYard().sherd(n, 0));
    }

    /** "a STAMP (0 to 11, or NONE)"; 18: "STAMP is none". */
    private static void stamp() {
        due.takes("stamp", -1, 11, IndexOutOfBoundsException.class, 0, n -> new AmphoraYard().sherd(0, n));
        for (int stamp = -1; stamp <= 11; stamp++) {
            AmphoraYard x = new AmphoraYard();
            x.sherd(0, stamp);
            due.is("it has stamp " + stamp, x.vessel(0, 1), stamp);
        }
    }

    /** "SHERDS (at most 60, numbered from 0 on)"; 18: "there are 60". */
    private static void sixtySherds() {
        AmphoraYard x = new AmphoraYard();
        for (int n = 0; n < 60; n++) {
            due.is("sherd", x.sherd(0, -1), n);
        }
        due.full("sherd 60", () -> x.sherd(0, -1));
        due.is("sherds", x.count(7), 60);
        due.is("vessels", x.vessels(-1), 60);
        due.is("the last one", x.vessel(59, 2), 59);
    }

    /** The same when they are joined: it is the sherds that are counted, not the vessels. */
    private static void sixtySherdsOfOneVessel() {
        AmphoraYard x = plain(60);
        for (int n = 59; n > 0; n--) {
            due.is("join", x.join(n, n - 1), true);
        }
        due.full("sherd 60", () -> x.sherd(3, -1));
        due.is("one vessel", x.vessels(-1), 1);
        due.is("sherds of the last one's", x.vessel(59, 0), 60);
        due.is("the least of the last one's", x.vessel(59, 2), 0);
        due.is("the first to the last", x.join(0, 59), false);
    }

    /** "Each is of a VESSEL of its own at first." */
    private static void alone() {
        AmphoraYard x = plain(3);
        for (int n = 0; n < 3; n++) {
            due.is("sherds", x.vessel(n, 0), 1);
            due.is("the least", x.vessel(n, 2), n);
        }
        due.is("vessels", x.vessels(-1), 3);
    }

    /** "all of their two VESSELS become one", by whichever sherds they are joined, in either order. */
    private static void allBecomeOne() {
        for (int a = 0; a < 2; a++) {
            for (int b = 2; b < 4; b++) {
                for (int turn = 0; turn < 2; turn++) {
                    AmphoraYard x = plain(4);
                    x.join(1, 0);
                    x.join(2, 3);
                    due.is("join", turn == 0 ? x.join(a, b) : x.join(b, a), true);
                    for (int n = 0; n < 4; n++) {
                        due.is("sherds", x.vessel(n, 0), 4);
                        due.is("the least", x.vessel(n, 2), 0);
                    }
                    due.is("vessels", x.vessels(-1), 1);
                }
            }
        }
    }

    /** "if all have one CLAY". */
    private static void oneClay() {
        for (int clay = 0; clay < 16; clay++) {
            AmphoraYard x = new AmphoraYard();
            x.sherd(clay, 0);
            x.sherd((clay + 1) % 16, -1);
            x.sherd(clay, -1);
            due.is("two clays", x.join(0, 1), false);
            due.is("one clay", x.join(0, 2), true);
            due.is("two clays of a joined one", x.join(1, 2), false);
            due.is("vessels", x.vessels(-1), 2);
        }
    }

    /** "and at most one STAMP is told among them": none, one, one told twice, and two. */
    private static void oneStamp() {
        int[][] pairs = {{-1, -1, -1}, {-1, 0, 0}, {0, -1, 0}, {0, 0, 0}, {11, 11, 11}, {11, -1, 11}};
        for (int[] p : pairs) {
            AmphoraYard x = new AmphoraYard();
            x.sherd(0, p[0]);
            x.sherd(0, p[1]);
            due.is("stamps " + p[0] + " and " + p[1], x.join(0, 1), true);
            due.is("the vessel's", x.vessel(0, 1), p[2]);
            due.is("the vessel's", x.vessel(1, 1), p[2]);
        }
        for (int other = 1; other < 12; other++) {
            AmphoraYard x = new AmphoraYard();
            x.sherd(0, 0);
            x.sherd(0, other);
            due.is("stamps 0 and " + other, x.join(0, 1), false);
            due.is("stamps " + other + " and 0", x.join(1, 0), false);
        }
    }

    /** The same by way of sherds without a stamp: theirs is the vessel's stamp. */
    private static void oneStampOfAVessel() {
        AmphoraYard x = new AmphoraYard();
        x.sherd(0, -1);
        x.sherd(0, 0);
        x.sherd(0, -1);
        x.sherd(0, 1);
        x.join(0, 1);
        x.join(2, 3);
        due.is("both have one", x.join(0, 2), false);
        due.is("sherds", x.vessel(0, 0) * 10 + x.vessel(2, 0), 22);
    }

    /** 19: there is no such SHERD; sherd 0 is of a clay of its own, so that none is joined to it. */
    private static void whichSherds() {
        due.takesIndex("join, the first", 59, 0, n -> Due.of(firstApart().join(n, 0)));
        due.takesIndex("join, the second", 59, 0, n -> Due.of(firstApart().join(0, n)));
        due.index("join of none", () -> Due.of(new AmphoraYard().join(0, 0)));
    }

    private static AmphoraYard firstApart() {
        AmphoraYard x = new AmphoraYard();
        for (int n = 0; n < 60; n++) {
            x.sherd(n == 0 ? 1 : 2, -1);
        }
        return x;
    }

    /** 19: "or are of one VESSEL": a sherd and itself, and two that were joined. */
    private static void ofOneVessel() {
        AmphoraYard x = plain(3);
        due.is("itself", x.join(1, 1), false);
        due.is("two", x.join(0, 1), true);
        due.is("once more", x.join(0, 1), false);
        due.is("the other way", x.join(1, 0), false);
        x.join(1, 2);
        due.is("by way of another one", x.join(2, 0), false);
    }

    /** 20: "those that have a STAMP (0 to 11), or all (NONE)". */
    private static void vesselsOfAStamp() {
        due.takes("vessels", -1, 11, IndexOutOfBoundsException.class, 0, n -> new AmphoraYard().vessels(n));
        AmphoraYard x = new AmphoraYard();
        for (int stamp = 0; stamp < 12; stamp++) {
            x.sherd(0, stamp);
            x.sherd(0, stamp);
            x.sherd(0, -1);
        }
        x.join(0, 1);
        x.join(33, 35);
        due.is("stamp 0, joined", x.vessels(0), 1);
        due.is("stamp 1", x.vessels(1), 2);
        due.is("stamp 11", x.vessels(11), 2);
        due.is("all", x.vessels(-1), 34);
    }

    /** 21: there is no such SHERD; "NoSuchElementException: another what". */
    private static void vesselWhat() {
        due.takesIndex("vessel", 59, 1, n -> plain(60).vessel(n, 0));
        due.index("vessel of none", () -> new AmphoraYard().vessel(0, 0));
        for (int what : new int[] {-1, 3, LEAST, GREATEST}) {
            due.none("what " + what, () -> plain(1).vessel(0, what));
        }
        due.is("what 0", plain(1).vessel(0, 0), 1);
        due.is("what 1, none", plain(1).vessel(0, 1), -1);
        due.is("what 2", plain(1).vessel(0, 2), 0);
    }

    public static void main(String[] args) {
        clay();
        stamp();
        sixtySherds();
        sixtySherdsOfOneVessel();
        alone();
        allBecomeOne();
        oneClay();
        oneStamp();
        oneStampOfAVessel();
        whichSherds();
        ofOneVessel();
        vesselsOfAStamp();
        vesselWhat();
        due.done();
    }
}
