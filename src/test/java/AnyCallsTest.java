import java.util.ArrayList;
import java.util.List;
import java.util.Random;
import java.util.Set;

/**
 * Any calls with any arguments: only exceptions that the document names come, of their very
 * classes, and a call that throws changes nothing but the tape.
 */
public final class AnyCallsTest {
    private static final Due due = new Due();
    private static final int CHECK = 14;
    private static final Set<String> NAMED = Set.of(
            "throws java.lang.IndexOutOfBoundsException",
            "throws java.lang.IllegalArgumentException",
            "throws java.lang.UnsupportedOperationException",
            "throws java.util.NoSuchElementException");

    private static int anyNumber(Random random) {
        switch (random.nextInt(12)) {
            case 0:
                return random.nextInt();
            case 1:
                return random.nextBoolean() ? Integer.MIN_VALUE : Integer.MAX_VALUE;
            case 2:
                return random.nextInt(1100) - 50;
            case 3:
                return random.nextInt(70) - 5;
            default:
                return random.nextInt(6);
        }
    }

    private static long call(AmphoraYard x, int which, int a, int b, int c) {
        switch (which) {
            case 0:
                return x.feed(a, b, c, a, b);
            case 1:
                return x.end(a) ? 1 : 0;
            case 2:
                return x.kind(a, b, c);
            case 3:
            case 4:
                return x.fire(a, b, c);
            case 5:
                return x.fill(a, b);
            case 6:
                return x.ship();
            case 7:
            case 8:
            case 9:
                return x.load(a, b, c) ? 1 : 0;
            case 10:
                return x.land(a, b);
            case 11:
                return x.storm(a, b);
            case 12:
                return x.tallest(a);
            case 13:
                x.rate(a, b);
                return 0;
            case CHECK:
                return x.check(a);
            case 15:
                return x.look(a, b);
            case 16:
                return x.stack(a, b, c);
            case 17:
                return x.notes(a, b > 2);
            case 18:
                return x.sherd(a, b - 1);
            case 19:
                return x.join(a, b) ? 1 : 0;
            case 20:
                return x.vessel(a, b) + x.vessels(c);
            case 21:
                return x.tell(a, b, c);
            case 22:
                return x.bound(a, b, c > 2);
            case 23:
                return x.undo(a) ? 1 : 0;
            case 24:
                return x.days(a);
            case 25:
                return x.span(a, b > 2, c);
            case 26:
                return x.quarrel(a) + (x.agree(b) ? 100 : 0);
            default:
                return x.count(a) + x.fault();
        }
    }

    /** What can be seen of an object. */
    private static String sight(AmphoraYard x) {
        List<Object> seen = new ArrayList<>();
        for (int what = 0; what < 10; what++) {
            seen.add(x.count(what));
        }
        for (int jar = 0; jar < x.count(1) && jar < 12; jar++) {
            for (int what = 0; what < 9; what++) {
                seen.add(x.look(jar, what));
            }
        }
        for (int sherd = 0; sherd < x.count(7) && sherd < 12; sherd++) {
            seen.add(x.vessel(sherd, 1));
            seen.add(x.vessel(sherd, 2));
        }
        for (int stamp = 0; stamp < 12; stamp++) {
            int s = stamp;
            seen.add(Due.outcome(() -> x.span(s, false, x.count(9))));
            seen.add(Due.outcome(() -> x.span(s, true, x.count(9))));
        }
        for (int port = 0; port < 8; port++) {
            seen.add(x.notes(port, false));
            seen.add(x.notes(port, true));
        }
        return seen.toString();
    }

    private static void run(Random random) {
        AmphoraYard x = new AmphoraYard();
        AmphoraYard withoutThrows = new AmphoraYard();
        for (int n = 0; n < 200; n++) {
            int which = random.nextInt(28);
            int a = anyNumber(random);
            int b = anyNumber(random);
            int c = anyNumber(random);
            String got = Due.outcome(() -> call(x, which, a, b, c));
            if (got.startsWith("throws")) {
                due.is("call " + which + " " + got + " as the document names it", NAMED.contains(got), true);
                if (which == CHECK) {
                    withoutThrows.end(0);
                }
            } else {
                String again = Due.outcome(() -> call(withoutThrows, which, a, b, c));
                boolean tellsFault = which > 26;
                due.is("call " + which, tellsFault ? "" : again, tellsFault ? "" : got);
            }
        }
        due.is("what is seen", sight(withoutThrows), sight(x));
        due.is("the tape", withoutThrows.feed(0, 0, 0, 0, 0), x.feed(0, 0, 0, 0, 0));
    }

    public static void main(String[] args) {
        Random random = new Random(17);
        for (int round = 0; round < 2000; round++) {
            run(random);
        }
        due.done();
    }
}
