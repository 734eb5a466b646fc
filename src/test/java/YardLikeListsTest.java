import java.util.ArrayList;
import java.util.List;
import java.util.Random;

/** Promises 5 to 12 and 29 in long runs, against lists of jars that are worked out anew at each call. */
public final class YardLikeListsTest {
    private static final Due due = new Due();
    private static final int[][] KINDS = {{1, 20, 10}, {5, 40, 60}, {12, 100, 333}, {30, 200, 1007}};

    private final Random random;
    private final AmphoraYard x = new AmphoraYard();
    private final List<Jar> jars = new ArrayList<>();
    private final List<List<Jar>> holds = new ArrayList<>();

    private static final class Jar {
        final int number;
        final int[] kind;
        int oil = 0;
        int place = 0;

        Jar(int number, int[] kind) {
            this.number = number;
            this.kind = kind;
        }

        int weight() {
            return kind[0] + oil;
        }
    }

    private YardLikeListsTest(Random random) {
        this.random = random;
        for (int[] k : KINDS) {
            x.kind(k[0], k[1], k[2]);
        }
        x.ship();
        x.ship();
        for (int n = 0; n < 12; n++) {
            holds.add(new ArrayList<>());
        }
    }

    private static int weightOf(List<Jar> some) {
        int sum = 0;
        for (Jar jar : some) {
            sum += jar.weight();
        }
        return sum;
    }

    private static List<Jar> above(List<Jar> hold, int k) {
        return hold.subList(k + 1, hold.size());
    }

    private void fire() {
        int kind = random.nextInt(KINDS.length);
        jars.add(new Jar(jars.size(), KINDS[kind]));
        due.is("fire", x.fire(kind, 0, 1), jars.size() - 1);
    }

    private void fill(Jar jar) {
        int oil = 1 + random.nextInt(30);
        boolean may = jar.place == 0 && jar.oil + oil <= jar.kind[1];
        jar.oil += may ? oil : 0;
        due.is("fill", x.fill(jar.number, oil), may ? jar.oil : -1);
    }

    private void load(Jar jar, int n) {
        List<Jar> hold = holds.get(n);
        List<Jar> with = new ArrayList<>(hold);
        with.add(jar);
        boolean may = jar.place == 0 && with.size() <= 10;
        for (int k = 0; k < with.size(); k++) {
            may &= weightOf(above(with, k)) <= with.get(k).kind[2];
        }
        due.is("load", x.load(jar.number, n / 6, n % 6), may);
        if (may) {
            hold.add(jar);
            jar.place = 1;
        }
    }

    private void land(int n) {
        List<Jar> hold = holds.get(n);
        int want = -1;
        if (!hold.isEmpty()) {
            Jar top = hold.remove(hold.size() - 1);
            top.place = 2;
            want = top.number;
        }
        due.is("land", x.land(n / 6, n % 6), want);
    }

    private void storm(int ship) {
        int by = random.nextInt(101);
        int broken = 0;
        for (List<Jar> hold : holds.subList(6 * ship, 6 * ship + 6)) {
            for (int k = 0; k < hold.size(); k++) {
                int bears = hold.get(k).kind[2];
                int left = bears - (int) Math.ceil(bears * by / 100.0);
                if (weightOf(above(hold, k)) > left) {
                    hold.get(k).place = 3;
                    broken++;
                }
            }
            hold.removeIf(jar -> jar.place == 3);
        }
        due.is("storm of " + by, x.storm(ship, by), broken);
    }

    private void sameCounts() {
        int[] places = new int[4];
        int oil = 0;
        for (Jar jar : jars) {
            places[jar.place]++;
            oil += jar.place == 3 ? 0 : jar.oil;
        }
        for (int place = 0; place < 4; place++) {
            due.is("count " + place, x.count(2 + place), places[place]);
        }
        due.is("count 6", x.count(6), oil);
    }

    private void sameHold(int n) {
        List<Jar> hold = holds.get(n);
        for (int k = 0; k < hold.size(); k++) {
            Jar jar = hold.get(k);
            due.is("stack", x.stack(n / 6, n % 6, k), jar.number);
            due.is("ship", x.look(jar.number, 6), n / 6);
            due.is("hold", x.look(jar.number, 7), n % 6);
            due.is("above", x.look(jar.number, 8), weightOf(above(hold, k)));
        }
        due.is("stack", x.stack(n / 6, n % 6, hold.size()), -1);
    }

    private void sameJars() {
        for (Jar jar : jars) {
            due.is("place", x.look(jar.number, 0), jar.place);
            due.is("weight", x.look(jar.number, 5), jar.weight());
        }
    }

    private void run() {
        for (int n = 0; n < 160; n++) {
            // few holds, so that stacks grow
            int hold = random.nextInt(3) * 4;
            Jar jar = jars.isEmpty() ? null : jars.get(random.nextInt(jars.size()));
            int what = random.nextInt(20);
            if (jar == null || what < 5 && jars.size() < 60) {
                fire();
            } else if (what < 8) {
                fill(jar);
            } else if (what < 17) {
                load(jar, hold);
            } else if (what < 19) {
                land(hold);
            } else {
                storm(random.nextInt(2));
            }
        }
        sameCounts();
        for (int n = 0; n < 12; n++) {
            sameHold(n);
        }
        sameJars();
    }

    public static void main(String[] args) {
        Random random = new Random(19);
        for (int round = 0; round < 1000; round++) {
            new YardLikeListsTest(random).run();
        }
        due.done();
    }
}
