import java.util.Random;

/** Promises 22 to 28: tellings, days, and what was known on them. */
public final class YearsTest {
    private static final Due due = new Due();
    private static final int LEAST = Integer.MIN_VALUE;
    private static final int GREATEST = Integer.MAX_VALUE;

    private static void wrongInputs() {
        AmphoraYard x = new AmphoraYard();
        for (int bad : new int[] {-1, 12, LEAST, GREATEST}) {
            due.index("tell from " + bad, () -> x.tell(bad, 0, 501));
            due.index("tell to " + bad, () -> x.tell(0, bad, 501));
            due.index("two that are one and none", () -> x.tell(bad, bad, 0));
            due.index("bound of " + bad, () -> x.bound(bad, -1, true));
            due.index("span of " + bad, () -> x.span(bad, true, 0));
        }
        for (int years : new int[] {-501, 501, LEAST, GREATEST}) {
            due.argument("years " + years, () -> x.tell(0, 1, years));
        }
        due.argument("they are one", () -> x.tell(11, 11, 0));
        for (int year : new int[] {-1, 1001, LEAST, GREATEST}) {
            due.argument("at most " + year, () -> x.bound(0, year, true));
            due.argument("at least " + year, () -> x.bound(0, year, false));
        }
        for (int n : new int[] {-1, 1001, LEAST, GREATEST}) {
            due.argument("days " + n, () -> x.days(n));
        }
        for (int telling : new int[] {-1, 0, LEAST, GREATEST}) {
            due.index("undo " + telling, () -> x.undo(telling) ? 1 : 0);
        }
        due.is("none came", x.count(8), 0);
        due.is("the day", x.count(9), 0);
    }

    private static void atMostSixty() {
        AmphoraYard x = new AmphoraYard();
        due.is("the most years", x.tell(0, 11, 500), 0);
        due.is("the fewest", x.tell(11, 0, -500), 1);
        due.is("the first year", x.bound(3, 0, false), 2);
        due.is("the last year", x.bound(3, 1000, true), 3);
        for (int n = 4; n < 60; n++) {
            due.is("telling " + n, n % 2 == 0 ? x.tell(0, 1, 0) : x.bound(2, 5, false), n);
        }
        due.is("undo the last", x.undo(59), true);
        due.full("tell 61", () -> x.tell(0, 1, 0));
        due.full("bound 61", () -> x.bound(0, 1, true));
        due.argument("tell 61 that is none", () -> x.tell(0, 0, 0));
        due.argument("bound 61 that is none", () -> x.bound(0, 1001, true));
        due.index("tell 61 of none", () -> x.tell(0, 12, 0));
        due.is("tellings", x.count(8), 60);
        due.is("least of sixty", x.span(2, false, 0), 5);
        due.index("undo 60", () -> x.undo(60) ? 1 : 0);
    }

    private static void daysGoOn() {
        AmphoraYard x = new AmphoraYard();
        due.is("no days", x.days(0), 0);
        due.is("the most", x.days(1000), 1000);
        due.is("one more", x.days(1), 1001);
        due.is("the day", x.count(9), 1001);
    }

    private static void knownFromDayToDay() {
        AmphoraYard x = new AmphoraYard();
        x.days(5);
        x.bound(0, 100, false);
        x.days(5);
        x.bound(0, 99, true);
        x.days(5);
        due.is("undo", x.undo(0), true);
        x.days(5);
        due.is("undo again", x.undo(0), false);
        due.none("ahead of all", () -> x.span(0, false, 4));
        due.is("the day it is told", x.span(0, false, 5), 100);
        due.none("not yet at most", () -> x.span(0, true, 9));
        due.is("a quarrel", x.quarrel(10), 2);
        due.is("still", x.quarrel(14), 2);
        due.is("not on the day it is taken back", x.quarrel(15), 0);
        due.is("agree 9", x.agree(9), true);
        due.is("agree 10", x.agree(10), false);
        due.is("agree 14", x.agree(14), false);
        due.is("agree 15", x.agree(15), true);
        due.is("a day to come", x.span(0, true, GREATEST), 99);
        due.none("taken back", () -> x.span(0, false, GREATEST));
        due.is("least day", x.agree(LEAST), true);
        due.is("least day, quarrel", x.quarrel(LEAST), 0);
        x.bound(1, 7, false);
        due.is("told and", x.undo(2), true);
        due.none("taken back on one day", () -> x.span(1, false, 20));
    }

    private static void ringsAndYearZero() {
        AmphoraYard x = new AmphoraYard();
        for (int stamp = 0; stamp < 11; stamp++) {
            x.tell(stamp, stamp + 1, 500);
        }
        due.is("all in a row", x.agree(0), true);
        x.bound(0, 1000, false);
        due.is("the last one", x.span(11, false, 0), 6500);
        due.none("no greatest", () -> x.span(11, true, 0));
        x.bound(11, 1000, true);
        due.is("a ring of 13", x.quarrel(0), 13);
        due.none("they do not agree", () -> x.span(11, false, 0));
        x.undo(11);
        due.is("the first one, below 0", x.span(0, true, 0), -4500);
        x.tell(11, 0, -500);
        due.is("a ring of 12", x.quarrel(0), 12);
        x.tell(5, 4, -499);
        due.is("a ring of 2", x.quarrel(0), 2);
    }

    /** The longest chains are told from their ends on, so that each telling waits for the next one. */
    private static void chainsToldBackward() {
        AmphoraYard x = new AmphoraYard();
        for (int stamp = 10; stamp >= 0; stamp--) {
            x.tell(stamp, stamp + 1, 500);
        }
        x.bound(0, 1000, false);
        due.is("they agree", x.agree(0), true);
        due.is("the last one", x.span(11, false, 0), 6500);
        AmphoraYard y = new AmphoraYard();
        for (int stamp = 0; stamp < 11; stamp++) {
            y.tell(stamp, stamp + 1, 500);
        }
        y.bound(11, 0, true);
        due.is("they agree", y.agree(0), true);
        due.is("the first one", y.span(0, true, 0), -5500);
    }

    private static void ringsOfZeroHold() {
        AmphoraYard x = new AmphoraYard();
        x.tell(0, 1, 10);
        x.tell(1, 0, -10);
        x.bound(0, 50, false);
        x.bound(0, 50, true);
        due.is("just 10", x.agree(0), true);
        due.is("least", x.span(1, false, 0), 60);
        due.is("greatest", x.span(1, true, 0), 60);
        x.tell(2, 3, 1);
        x.tell(3, 2, 0);
        due.is("apart from all bounds", x.quarrel(0), 2);
        due.none("of a stamp that has none of it", () -> x.span(1, true, 0));
    }

    /** Tellings as rows of from, to and years; point 12 is the year 0. */
    private static boolean holds(int[][] rows, int set) {
        long[][] most = farthest(rows, set);
        for (int p = 0; p < 13; p++) {
            if (most[p][p] > 0) {
                return false;
            }
        }
        return true;
    }

    private static long[][] farthest(int[][] rows, int set) {
        long[][] most = new long[13][13];
        for (int a = 0; a < 13; a++) {
            for (int b = 0; b < 13; b++) {
                most[a][b] = a == b ? 0 : Long.MIN_VALUE / 4;
            }
        }
        for (int i = 0; i < rows.length; i++) {
            if ((set >> i & 1) == 1) {
                most[rows[i][0]][rows[i][1]] = Math.max(most[rows[i][0]][rows[i][1]], rows[i][2]);
            }
        }
        for (int k = 0; k < 13; k++) {
            for (int a = 0; a < 13; a++) {
                for (int b = 0; b < 13; b++) {
                    if (most[a][k] > -1000000 && most[k][b] > -1000000) {
                        most[a][b] = Math.max(most[a][b], most[a][k] + most[k][b]);
                    }
                }
            }
        }
        return most;
    }

    /** Against all sets of the tellings that are known. */
    private static void likeAllSets(Random random) {
        AmphoraYard x = new AmphoraYard();
        int tellings = 1 + random.nextInt(9);
        int stamps = 2 + random.nextInt(3);
        int spread = 1 + random.nextInt(20);
        int[][] rows = new int[tellings][];
        int[] told = new int[tellings];
        int[] back = new int[tellings];
        int day = 0;
        for (int i = 0; i < tellings; i++) {
            int a = random.nextInt(stamps);
            int b = (a + 1 + random.nextInt(stamps - 1)) % stamps;
            int years = random.nextInt(2 * spread + 1) - spread;
            boolean atMost = random.nextBoolean();
            if (random.nextInt(3) > 0) {
                rows[i] = new int[] {a, b, years};
                x.tell(a, b, years);
            } else {
                int year = 100 + years;
                rows[i] = atMost ? new int[] {a, 12, -year} : new int[] {12, a, year};
                x.bound(a, year, atMost);
            }
            told[i] = day;
            back[i] = 1000;
            int undone = random.nextInt(2 * tellings);
            if (undone <= i) {
                due.is("undo", x.undo(undone), back[undone] == 1000);
                back[undone] = Math.min(back[undone], day);
            }
            day = x.days(random.nextInt(2));
        }
        for (int asked = -1; asked <= day + 1; asked++) {
            int known = 0;
            for (int i = 0; i < tellings; i++) {
                known |= told[i] <= asked && asked < back[i] ? 1 << i : 0;
            }
            sameAsOf(x, rows, known, asked);
        }
    }

    private static void sameAsOf(AmphoraYard x, int[][] rows, int known, int asked) {
        int fewest = 0;
        for (int set = known; set > 0; set = set - 1 & known) {
            int size = Integer.bitCount(set);
            if ((fewest == 0 || size < fewest) && !holds(rows, set)) {
                fewest = size;
            }
        }
        due.is("agree", x.agree(asked), fewest == 0);
        due.is("quarrel", x.quarrel(asked), fewest);
        long[][] most = farthest(rows, known);
        for (int stamp = 0; stamp < 4; stamp++) {
            int s = stamp;
            long least = most[12][s];
            long greatest = -most[s][12];
            String none = "throws java.util.NoSuchElementException";
            due.is("least", Due.outcome(() -> x.span(s, false, asked)),
                    fewest > 0 || least < -1000000 ? none : String.valueOf(least));
            due.is("greatest", Due.outcome(() -> x.span(s, true, asked)),
                    fewest > 0 || greatest > 1000000 ? none : String.valueOf(greatest));
        }
    }

    public static void main(String[] args) {
        wrongInputs();
        atMostSixty();
        daysGoOn();
        knownFromDayToDay();
        ringsAndYearZero();
        chainsToldBackward();
        ringsOfZeroHold();
        Random random = new Random(13);
        for (int round = 0; round < 1500; round++) {
            likeAllSets(random);
        }
        due.done();
    }
}
