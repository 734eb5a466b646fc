import java.util.Random;

/** Promise 13 (tallest), against a search through all orders. */
public final class TallestTest {
    private static final Due due = new Due();

    /** Stacks from above: any jar that bears all that stands already may come below it. */
    private static int search(int[] weight, int[] bears, int used, int above) {
        int most = Integer.bitCount(used);
        for (int jar = 0; jar < weight.length; jar++) {
            if ((used >> jar & 1) == 0 && above <= bears[jar]) {
                most = Math.max(most, search(weight, bears, used | 1 << jar, above + weight[jar]));
            }
        }
        return most;
    }

    private static void likeTheSearch(Random random, int jars) {
        AmphoraYard x = new AmphoraYard();
        int[] empty = new int[8];
        int[] bear = new int[8];
        for (int kind = 0; kind < 8; kind++) {
            empty[kind] = 1 + random.nextInt(20);
            bear[kind] = random.nextInt(70);
            x.kind(empty[kind], 200, bear[kind]);
        }
        int[] weight = new int[jars];
        int[] bears = new int[jars];
        for (int jar = 0; jar < jars; jar++) {
            int kind = random.nextInt(8);
            int oil = 1 + random.nextInt(20);
            x.fire(kind, 0, 1);
            x.fill(jar, oil);
            weight[jar] = empty[kind] + oil;
            bears[jar] = bear[kind];
        }
        due.is("tallest of " + jars, x.tallest((1 << jars) - 1), search(weight, bears, 0, 0));
    }

    private static void allTwelve() {
        AmphoraYard x = new AmphoraYard();
        x.kind(1, 1, 5000);
        for (int jar = 0; jar < 30; jar++) {
            x.fire(0, 0, 1);
        }
        due.is("twelve, more than a hold takes", x.tallest(0xFFF), 12);
        due.is("twelve others", x.tallest(0xFFF00), 12);
        due.argument("thirteen", () -> x.tallest(0x1FFF));
        due.argument("all", () -> x.tallest(-1));
        due.is("jar 20 is in no set", x.tallest(1 << 20), 0);
        due.is("nor is jar 29", x.tallest(0x3FF00001), 1);
        due.is("the sign", x.tallest(Integer.MIN_VALUE), 0);
        due.is("nothing", x.tallest(0), 0);
        x.ship();
        x.load(0, 0, 0);
        due.is("twelve of thirteen are in the yard", x.tallest(0x1FFF), 12);
        x.load(1, 0, 0);
        due.is("eleven of thirteen", x.tallest(0x1FFF), 11);
        x.land(0, 0);
        due.is("a landed one is not in the yard", x.tallest(0x3), 0);
        due.is("nothing changed", x.count(2), 28);
    }

    private static void bitsOfNoJar() {
        AmphoraYard x = new AmphoraYard();
        due.is("no jars", x.tallest(0xFFFFF), 0);
        x.kind(1, 1, 0);
        x.fire(0, 0, 1);
        x.fire(0, 0, 1);
        due.is("none bears another one", x.tallest(-1), 1);
        due.is("jar 2 is none", x.tallest(4), 0);
    }

    public static void main(String[] args) {
        allTwelve();
        bitsOfNoJar();
        Random random = new Random(7);
        for (int round = 0; round < 400; round++) {
            likeTheSearch(random, 1 + random.nextInt(8));
        }
        for (int round = 0; round < 20; round++) {
            likeTheSearch(random, 12);
        }
        due.done();
    }
}
