/** Objects in states from which edges are looked at; each is made by far fewer than 512 calls. */
final class Worlds {
    static final String NOTE = "jar 3 oil 30 maker 3 year 13 due 30";

    private Worlds() {
    }

    /**
     * Something of all. Jars 0 and 1 are in the yard, 2 is broken, 3 is in hold 4 of ship 1, 4 is
     * landed, 5 is full in the yard. Sherds 0 and 1 are joined. Telling 0 is known, 1 was taken
     * back on day 5, and 2 quarrels with 3 from day 7 on, which is today. A note is on the tape.
     */
    static AmphoraYard some() {
        AmphoraYard x = new AmphoraYard();
        jarsEverywhere(x);
        notesAtPorts(x);
        x.sherd(1, 5);
        x.sherd(1, -1);
        x.sherd(2, -1);
        x.sherd(1, 6);
        x.join(0, 1);
        x.tell(0, 1, 10);
        x.bound(0, 100, false);
        x.days(5);
        x.undo(1);
        x.days(2);
        x.bound(3, 200, false);
        x.bound(3, 199, true);
        Texts.write(x, NOTE);
        return x;
    }

    private static void jarsEverywhere(AmphoraYard x) {
        x.kind(10, 50, 100);
        x.kind(20, 60, 5);
        x.ship();
        x.ship();
        for (int jar = 0; jar < 6; jar++) {
            x.fire(0, jar, 10 + jar);
        }
        x.fill(3, 30);
        x.fill(5, 50);
        x.load(2, 1, 4);
        x.load(3, 1, 4);
        x.storm(1, 100);
        x.load(4, 0, 0);
        x.land(0, 0);
    }

    private static void notesAtPorts(AmphoraYard x) {
        x.rate(1, 20);
        Texts.write(x, NOTE);
        x.check(0);
        Texts.write(x, NOTE);
        x.check(1);
        Texts.write(x, "jar 3 oil x");
        Due.outcome(() -> x.check(0));
    }

    /** All rows are full: kinds, jars, ships, hold 0 of ship 0, sherds, tellings and the tape. */
    static AmphoraYard full() {
        AmphoraYard x = new AmphoraYard();
        for (int kind = 0; kind < 8; kind++) {
            x.kind(1 + kind, 10, 5000);
        }
        for (int ship = 0; ship < 4; ship++) {
            x.ship();
        }
        for (int n = 0; n < 60; n++) {
            x.fire(n % 8, 0, 1);
            x.sherd(0, -1);
            x.tell(0, 1, n);
        }
        for (int jar = 0; jar < 10; jar++) {
            x.load(jar, 0, 0);
        }
        for (int n = 0; n < 20; n++) {
            x.feed(0x6A617220, n, n, n, n);
        }
        return x;
    }
}
