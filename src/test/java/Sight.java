import java.util.ArrayList;
import java.util.List;

/**
 * All that can be seen of an object. Each part is looked at on an object of its own that is made
 * by the same calls, so that none is used for more than 512 calls, and looks that change
 * something (the tape's, an undo) do not meet one another.
 */
final class Sight {
    private final List<String> seen = new ArrayList<>();

    private Sight() {
    }

    /** Makes an object by always the same calls. */
    interface Maker {
        AmphoraYard made();
    }

    static String of(Maker maker) {
        Sight sight = new Sight();
        sight.counts(maker.made());
        for (int from = 0; from < 60; from += 20) {
            sight.jars(maker.made(), from);
            sight.sherds(maker.made(), from);
        }
        sight.stacks(maker.made());
        sight.newShips(maker.made());
        sight.notes(maker.made());
        sight.years(maker.made());
        sight.tellings(maker.made());
        sight.rates(maker.made());
        return sight.seen.toString();
    }

    /** How many bytes there are, and what they read as. */
    static String tapeOf(Maker maker) {
        AmphoraYard x = maker.made();
        int size = 400;
        while (size > 0 && !x.end(size)) {
            size -= 1;
        }
        AmphoraYard y = maker.made();
        return size + " bytes, " + Due.outcome(() -> y.check(0)) + ", " + y.fault();
    }

    private void look(String what, Due.Call call) {
        seen.add(what + " " + Due.outcome(call));
    }

    private void counts(AmphoraYard x) {
        for (int what = 0; what < 10; what++) {
            int w = what;
            look("count", () -> x.count(w));
        }
        for (int stamp = -1; stamp < 12; stamp++) {
            int s = stamp;
            look("vessels", () -> x.vessels(s));
        }
        look("tallest", () -> x.tallest(0xFFF));
        look("tallest", () -> x.tallest(0xFF000));
    }

    private void jars(AmphoraYard x, int from) {
        for (int jar = from; jar < from + 20 && jar < x.count(1); jar++) {
            for (int what = 0; what < 9; what++) {
                int j = jar;
                int w = what;
                look("jar " + jar, () -> x.look(j, w));
            }
        }
    }

    private void sherds(AmphoraYard x, int from) {
        for (int sherd = from; sherd < from + 20 && sherd < x.count(7); sherd++) {
            for (int what = 0; what < 3; what++) {
                int s = sherd;
                int w = what;
                look("sherd " + sherd, () -> x.vessel(s, w));
            }
        }
    }

    private void stacks(AmphoraYard x) {
        for (int pile = 0; pile < 24; pile++) {
            int ship = pile / 6;
            int hold = pile % 6;
            look("stack " + pile, () -> x.stack(ship, hold, 0));
            for (int k = 1; k <= 10 && ship < 2; k++) {
                int high = k;
                look("stack " + pile, () -> x.stack(ship, hold, high));
            }
        }
    }

    /** A new ship's number tells how many there are. */
    private void newShips(AmphoraYard x) {
        look("a new ship", x::ship);
    }

    private void notes(AmphoraYard x) {
        look("fault", x::fault);
        for (int port = 0; port < 8; port++) {
            int p = port;
            look("checked at " + port, () -> x.notes(p, false));
            look("false at " + port, () -> x.notes(p, true));
        }
    }

    private void years(AmphoraYard x) {
        int today = x.count(9);
        for (int day : new int[] {0, today - 3, today - 1, today, today + 1}) {
            look("agree", () -> Due.of(x.agree(day)));
            look("quarrel", () -> x.quarrel(day));
            for (int stamp = 0; stamp < 12; stamp++) {
                int s = stamp;
                look("least " + stamp, () -> x.span(s, false, day));
                look("greatest " + stamp, () -> x.span(s, true, day));
            }
        }
    }

    /** Whether each is taken back yet. */
    private void tellings(AmphoraYard x) {
        for (int telling = 0; telling < x.count(8); telling++) {
            int t = telling;
            look("undo " + telling, () -> Due.of(x.undo(t)));
        }
    }

    /** Rates are seen by the dues of jar 3 of Worlds.some(), where it is. */
    private void rates(AmphoraYard x) {
        for (int port = 0; port < 8; port++) {
            int p = port;
            x.end(0);
            Texts.write(x, Worlds.NOTE);
            look("due at " + port, () -> x.check(p));
        }
    }
}
