/** The examples of README.md, line by line, with the answers that stand there. */
public final class ReadmeTest {
    private static final Due due = new Due();
    private static final AmphoraYard yard = new AmphoraYard();

    private ReadmeTest() {
    }

    private static void jarsAndShips() {
        int kind = yard.kind(10, 50, 100);
        int jar = yard.fire(kind, 3, 120);
        int other = yard.fire(kind, 3, 121);
        due.is("fill", yard.fill(jar, 40), 40);
        due.is("tallest", yard.tallest(0b11), 2);
        int ship = yard.ship();
        due.is("load", yard.load(jar, ship, 0), true);
        due.is("load the other", yard.load(other, ship, 0), true);
        due.is("look", yard.look(jar, 8), 10);
        due.is("storm", yard.storm(ship, 30), 0);
        due.is("land", yard.land(ship, 0), 1);
    }

    private static void notes() {
        yard.feed(0x6A617220, 0x30206F69, 0x6C203430, 0x206D616B, 0x65722033);
        yard.feed(0x20796561, 0x72203132, 0x30206475, 0x65203430, 0);
        due.is("end", yard.end(36), true);
        due.is("check", yard.check(2), 0);
        due.is("notes", yard.notes(2, false), 1);
        due.is("fault", yard.fault(), AmphoraYard.NONE);
    }

    private static void sherds() {
        int rim = yard.sherd(4, AmphoraYard.NONE);
        int handle = yard.sherd(4, 7);
        due.is("join", yard.join(rim, handle), true);
        due.is("vessels", yard.vessels(AmphoraYard.NONE), 1);
        due.is("vessel", yard.vessel(rim, 1), 7);
    }

    private static void years() {
        due.is("bound", yard.bound(0, 100, false), 0);
        due.is("tell", yard.tell(0, 1, 10), 1);
        due.is("span", yard.span(1, false, 0), 110);
        due.is("days", yard.days(5), 5);
        due.is("bound at most", yard.bound(1, 105, true), 2);
        due.is("agree", yard.agree(5), false);
        due.is("quarrel", yard.quarrel(5), 3);
        due.is("undo", yard.undo(2), true);
        due.is("agree again", yard.agree(5), true);
    }

    public static void main(String[] args) {
        jarsAndShips();
        notes();
        sherds();
        years();
        due.done();
    }
}
