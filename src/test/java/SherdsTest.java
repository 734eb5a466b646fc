import java.util.Random;

/** Promises 18 to 21: sherds, joined to vessels. */
public final class SherdsTest {
    private static final Due due = new Due();
    private static final int LEAST = Integer.MIN_VALUE;
    private static final int GREATEST = Integer.MAX_VALUE;

    private static void sherds() {
        AmphoraYard x = new AmphoraYard();
        for (int clay : new int[] {-1, 16, LEAST, GREATEST}) {
            due.argument("clay " + clay, () -> x.sherd(clay, 0));
            due.argument("clay ahead of stamp, " + clay, () -> x.sherd(clay, 12));
        }
        for (int stamp : new int[] {-2, 12, LEAST, GREATEST}) {
            due.index("stamp " + stamp, () -> x.sherd(0, stamp));
            due.index("vessels " + stamp, () -> x.vessels(stamp));
        }
        due.is("none came", x.count(7), 0);
        due.is("the least", x.sherd(0, 0), 0);
        due.is("the greatest", x.sherd(15, 11), 1);
        due.is("without a stamp", x.sherd(15, -1), 2);
        for (int n = 3; n < 60; n++) {
            due.is("sherd " + n, x.sherd(1, -1), n);
        }
        due.full("sherd 61", () -> x.sherd(0, 0));
        due.index("sherd 61 of no stamp", () -> x.sherd(0, 12));
        due.argument("sherd 61 of no clay", () -> x.sherd(16, 0));
        due.is("sherds", x.count(7), 60);
        due.is("vessels", x.vessels(-1), 60);
        due.is("with stamp 11", x.vessels(11), 1);
        due.is("with stamp 5", x.vessels(5), 0);
        due.is("join the last", x.join(59, 58), true);
        due.is("vessels", x.vessels(-1), 59);
    }

    private static void looks() {
        AmphoraYard x = new AmphoraYard();
        due.index("no sherd", () -> x.vessel(0, 0));
        x.sherd(1, 7);
        x.sherd(1, -1);
        for (int bad : new int[] {-1, 2, LEAST, GREATEST}) {
            due.index("vessel of " + bad, () -> x.vessel(bad, 9));
            due.index("join " + bad + " to 0", () -> x.join(bad, 0) ? 1 : 0);
            due.index("join 0 to " + bad, () -> x.join(0, bad) ? 1 : 0);
        }
        for (int what : new int[] {-1, 3, LEAST, GREATEST}) {
            due.none("vessel what " + what, () -> x.vessel(0, what));
        }
        due.is("alone", x.vessel(1, 0), 1);
        due.is("its stamp", x.vessel(1, 1), -1);
        due.is("its least", x.vessel(1, 2), 1);
        due.is("to itself", x.join(1, 1), false);
        due.is("join", x.join(1, 0), true);
        due.is("two", x.vessel(1, 0), 2);
        due.is("the stamp of the other one", x.vessel(1, 1), 7);
        due.is("the least", x.vessel(1, 2), 0);
    }

    private static void clayAndStamps() {
        AmphoraYard x = new AmphoraYard();
        x.sherd(1, -1);
        x.sherd(1, 3);
        x.sherd(1, 3);
        x.sherd(1, 4);
        x.sherd(2, -1);
        due.is("another clay", x.join(0, 4), false);
        due.is("one stamp told twice", x.join(1, 2), true);
        due.is("counted once", x.vessels(3), 1);
        due.is("another stamp", x.join(2, 3), false);
        due.is("no stamp to stamp 4", x.join(0, 3), true);
        due.is("by way of no stamp", x.join(0, 1), false);
        due.is("vessels", x.vessels(-1), 3);
        due.is("of stamp 4", x.vessels(4), 1);
        due.is("nothing happened", x.vessel(1, 0), 2);
    }

    private static void stampComesToALowerVessel() {
        AmphoraYard x = new AmphoraYard();
        x.sherd(5, -1);
        x.sherd(5, -1);
        x.sherd(5, 0);
        x.sherd(5, 1);
        due.is("0 to 1", x.join(1, 0), true);
        due.is("1 to 2", x.join(2, 1), true);
        due.is("stamp of 0", x.vessel(0, 1), 0);
        due.is("vessels of stamp 0", x.vessels(0), 1);
        due.is("0 to 3", x.join(3, 0), false);
        due.is("three", x.vessel(2, 0), 3);
    }

    /** Against rows of the stamps and the groups of single sherds. */
    private static void likeARow(Random random) {
        AmphoraYard x = new AmphoraYard();
        int sherds = 40;
        int[] clay = new int[sherds];
        int[] stamp = new int[sherds];
        int[] group = new int[sherds];
        for (int s = 0; s < sherds; s++) {
            clay[s] = random.nextInt(2);
            stamp[s] = random.nextInt(3) == 0 ? random.nextInt(3) : -1;
            group[s] = s;
            x.sherd(clay[s], stamp[s]);
        }
        for (int round = 0; round < 60; round++) {
            int a = random.nextInt(sherds);
            int b = random.nextInt(sherds);
            boolean may = group[a] != group[b];
            int told = -1;
            for (int s = 0; s < sherds; s++) {
                if (group[s] == group[a] || group[s] == group[b]) {
                    may &= clay[s] == clay[a];
                    may &= stamp[s] == -1 || told == -1 || stamp[s] == told;
                    told = Math.max(told, stamp[s]);
                }
            }
            due.is("join(" + a + ", " + b + ")", x.join(a, b), may);
            int gone = group[b];
            for (int s = 0; may && s < sherds; s++) {
                group[s] = group[s] == gone ? group[a] : group[s];
            }
        }
        int[] vessels = new int[4];
        for (int s = 0; s < sherds; s++) {
            int size = 0;
            int told = -1;
            int least = sherds;
            for (int t = sherds - 1; t >= 0; t--) {
                if (group[t] == group[s]) {
                    size++;
                    told = Math.max(told, stamp[t]);
                    least = t;
                }
            }
            due.is("size", x.vessel(s, 0), size);
            due.is("stamp", x.vessel(s, 1), told);
            due.is("least", x.vessel(s, 2), least);
            vessels[told + 1] += least == s ? 1 : 0;
        }
        for (int told = 0; told < 3; told++) {
            due.is("vessels(" + told + ")", x.vessels(told), vessels[told + 1]);
        }
        due.is("all", x.vessels(-1), vessels[0] + vessels[1] + vessels[2] + vessels[3]);
    }

    public static void main(String[] args) {
        sherds();
        looks();
        clayAndStamps();
        stampComesToALowerVessel();
        Random random = new Random(11);
        for (int round = 0; round < 100; round++) {
            likeARow(random);
        }
        due.done();
    }
}
