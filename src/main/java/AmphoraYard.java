import java.util.NoSuchElementException;

/**
 * A yard of oil jars, the ships and painted notes of its time, and the sherds and stamps that are
 * found long behind it. The face looks at every argument and throws; the classes inside hold the
 * state, trust what the face has looked at, and make all their rows when they are made.
 */
public final class AmphoraYard {
    public static final int NONE = -1;

    private static final int MOST_OIL = 200;
    private static final int MOST_MAKER = 15;
    private static final int MOST_JAR_YEAR = 300;
    private static final int MOST_CLAY = 15;
    private static final int STAMPS = 12;
    private static final int MOST_YEARS_BETWEEN = 500;
    private static final int MOST_BOUND_YEAR = 1000;
    private static final int MOST_DAYS = 1000;

    private final Tape tape;
    private final Note note;
    private final Kinds kinds;
    private final Jars jars;
    private final Fleet fleet;
    private final Stacker stacker;
    private final Ports ports;
    private final Sherds sherds;
    private final Tellings tellings;
    private int wrongByte;
    private int today;

    public AmphoraYard() {
        tape = new Tape();
        note = new Note();
        kinds = new Kinds();
        jars = new Jars(kinds);
        fleet = new Fleet(jars);
        stacker = new Stacker(jars);
        ports = new Ports();
        sherds = new Sherds();
        tellings = new Tellings();
        wrongByte = NONE;
        today = 0;
    }

    public int feed(int a, int b, int c, int d, int e) {
        return tape.append(a, b, c, d, e);
    }

    public boolean end(int n) {
        return tape.keepFirst(n);
    }

    public int kind(int empty, int room, int bears) throws IllegalArgumentException, UnsupportedOperationException {
        needNumber(empty, 1, Kinds.MOST_EMPTY);
        needNumber(room, 1, Kinds.MOST_ROOM);
        needNumber(bears, 0, Kinds.MOST_BEARS);
        needPlace(kinds.size, Kinds.MOST);
        return kinds.add(empty, room, bears);
    }

    public int fire(int kind, int maker, int year)
            throws IndexOutOfBoundsException, IllegalArgumentException, UnsupportedOperationException {
        needIndex(kind, kinds.size);
        needNumber(maker, 0, MOST_MAKER);
        needNumber(year, 1, MOST_JAR_YEAR);
        needPlace(jars.size, Jars.MOST);
        return jars.add(kind, maker, year);
    }

    public int fill(int jar, int oil) throws IndexOutOfBoundsException, IllegalArgumentException {
        needIndex(jar, jars.size);
        needNumber(oil, 1, MOST_OIL);
        return jars.pour(jar, oil);
    }

    public int ship() throws UnsupportedOperationException {
        needPlace(fleet.size, Fleet.MOST);
        return fleet.add();
    }

    public boolean load(int jar, int ship, int hold) throws IndexOutOfBoundsException {
        needIndex(jar, jars.size);
        needHold(ship, hold);
        return fleet.put(jar, Fleet.pileOf(ship, hold));
    }

    public int land(int ship, int hold) throws IndexOutOfBoundsException {
        needHold(ship, hold);
        return fleet.takeTop(Fleet.pileOf(ship, hold));
    }

    public int storm(int ship, int by) throws IndexOutOfBoundsException, IllegalArgumentException {
        needIndex(ship, fleet.size);
        needNumber(by, 0, Fleet.MOST_STORM);
        return fleet.shake(ship, by);
    }

    public int look(int jar, int what) throws IndexOutOfBoundsException, NoSuchElementException {
        needIndex(jar, jars.size);
        switch (what) {
            case 0:
                return jars.place[jar];
            case 1:
                return jars.kindOf[jar];
            case 2:
                return jars.maker[jar];
            case 3:
                return jars.year[jar];
            case 4:
                return jars.oil[jar];
            case 5:
                return jars.weight(jar);
            case 6:
                return Fleet.shipOf(jars.pile[jar]);
            case 7:
                return Fleet.holdOf(jars.pile[jar]);
            case 8:
                return fleet.weightAbove(jar);
            default:
                throw new NoSuchElementException("what is 0 to 8");
        }
    }

    public int stack(int ship, int hold, int k) throws IndexOutOfBoundsException {
        needHold(ship, hold);
        return fleet.jarAt(Fleet.pileOf(ship, hold), k);
    }

    public int tallest(int set) throws IllegalArgumentException {
        needNumber(stacker.choose(set), 0, Stacker.MOST);
        return stacker.greatest();
    }

    public void rate(int port, int rate) throws IndexOutOfBoundsException, IllegalArgumentException {
        needIndex(port, Ports.ALL);
        needNumber(rate, 0, Ports.MOST_RATE);
        ports.rate[port] = rate;
    }

    public int check(int port) throws IndexOutOfBoundsException, IllegalArgumentException {
        int firstWrong = note.readFrom(tape);
        // the tape is used up by a call that throws, too
        tape.clear();
        needIndex(port, Ports.ALL);
        wrongByte = firstWrong;
        if (firstWrong != NONE) {
            throw new IllegalArgumentException("the text is no note");
        }
        int falsehood = falsehoodAt(port);
        ports.countNote(port, falsehood != 0);
        return falsehood;
    }

    public int fault() {
        return wrongByte;
    }

    public int notes(int port, boolean wrong) throws IndexOutOfBoundsException {
        needIndex(port, Ports.ALL);
        return wrong ? ports.foundFalse[port] : ports.checked[port];
    }

    public int sherd(int clay, int stamp)
            throws IndexOutOfBoundsException, IllegalArgumentException, UnsupportedOperationException {
        // here the promise tells of the clay first
        needNumber(clay, 0, MOST_CLAY);
        needStampOrNone(stamp);
        needPlace(sherds.size, Sherds.MOST);
        return sherds.add(clay, stamp);
    }

    public boolean join(int a, int b) throws IndexOutOfBoundsException {
        needIndex(a, sherds.size);
        needIndex(b, sherds.size);
        return sherds.unite(a, b);
    }

    public int vessels(int stamp) throws IndexOutOfBoundsException {
        needStampOrNone(stamp);
        return stamp == NONE ? sherds.allVessels() : sherds.vesselsWith(stamp);
    }

    public int vessel(int sherd, int what) throws IndexOutOfBoundsException, NoSuchElementException {
        needIndex(sherd, sherds.size);
        int first = sherds.first[sherd];
        switch (what) {
            case 0:
                return sherds.members[first];
            case 1:
                return sherds.stamp[first];
            case 2:
                return first;
            default:
                throw new NoSuchElementException("what is 0 to 2");
        }
    }

    public int tell(int earlier, int later, int years)
            throws IndexOutOfBoundsException, IllegalArgumentException, UnsupportedOperationException {
        needIndex(earlier, STAMPS);
        needIndex(later, STAMPS);
        if (earlier == later) {
            throw new IllegalArgumentException("the two stamps are one");
        }
        needNumber(years, -MOST_YEARS_BETWEEN, MOST_YEARS_BETWEEN);
        needPlace(tellings.size, Tellings.MOST);
        return tellings.add(earlier, later, years, today);
    }

    public int bound(int stamp, int year, boolean atMost)
            throws IndexOutOfBoundsException, IllegalArgumentException, UnsupportedOperationException {
        needIndex(stamp, STAMPS);
        needNumber(year, 0, MOST_BOUND_YEAR);
        needPlace(tellings.size, Tellings.MOST);
        return atMost
                ? tellings.add(stamp, Tellings.YEAR_ZERO, -year, today)
                : tellings.add(Tellings.YEAR_ZERO, stamp, year, today);
    }

    public boolean undo(int telling) throws IndexOutOfBoundsException {
        needIndex(telling, tellings.size);
        return tellings.takeBack(telling, today);
    }

    public int days(int n) throws IllegalArgumentException {
        needNumber(n, 0, MOST_DAYS);
        today += n;
        return today;
    }

    public boolean agree(int day) {
        tellings.recall(day);
        return tellings.canAllHold();
    }

    public int span(int stamp, boolean most, int day) throws IndexOutOfBoundsException, NoSuchElementException {
        needIndex(stamp, STAMPS);
        tellings.recall(day);
        if (!tellings.canAllHold()) {
            throw new NoSuchElementException("the tellings do not agree");
        }
        int ahead = most
                ? tellings.yearsBetween(stamp, Tellings.YEAR_ZERO)
                : tellings.yearsBetween(Tellings.YEAR_ZERO, stamp);
        if (ahead == Tellings.UNBOUNDED) {
            throw new NoSuchElementException("there is no such bound");
        }
        return most ? -ahead : ahead;
    }

    public int quarrel(int day) {
        tellings.recall(day);
        return tellings.canAllHold() ? 0 : tellings.fewestThatQuarrel();
    }

    public int count(int what) {
        switch (what) {
            case 0:
                return kinds.size;
            case 1:
                return jars.size;
            case 2:
                return jars.countIn(Jars.IN_YARD);
            case 3:
                return jars.countIn(Jars.IN_SHIP);
            case 4:
                return jars.countIn(Jars.LANDED);
            case 5:
                return jars.countIn(Jars.BROKEN);
            case 6:
                return jars.oilUnbroken();
            case 7:
                return sherds.size;
            case 8:
                return tellings.size;
            case 9:
                return today;
            default:
                return NONE;
        }
    }

    private static void needIndex(int index, int size) {
        if (index < 0 || index >= size) {
            throw new IndexOutOfBoundsException("there is no such thing");
        }
    }

    private static void needNumber(int number, int least, int most) {
        if (number < least || number > most) {
            throw new IllegalArgumentException("the number is too small or too great");
        }
    }

    private static void needPlace(int size, int most) {
        if (size >= most) {
            throw new UnsupportedOperationException("there are as many as there may be");
        }
    }

    private static void needStampOrNone(int stamp) {
        if (stamp != NONE) {
            needIndex(stamp, STAMPS);
        }
    }

    private void needHold(int ship, int hold) {
        needIndex(ship, fleet.size);
        needIndex(hold, Fleet.HOLDS);
    }

    private int falsehoodAt(int port) {
        int jar = note.numbers[Note.JAR];
        if (jar >= jars.size || jars.place[jar] != Jars.IN_SHIP) {
            return 1;
        }
        if (note.numbers[Note.OIL] != jars.oil[jar]) {
            return 2;
        }
        if (note.numbers[Note.MAKER] != jars.maker[jar]) {
            return 3;
        }
        if (note.numbers[Note.YEAR] != jars.year[jar]) {
            return 4;
        }
        return note.numbers[Note.DUE] != ports.due(port, jars.oil[jar]) ? 5 : 0;
    }

    /** The bytes that are fed and not yet used up. */
    private static final class Tape {
        static final int MOST = 400;
        static final int BYTES_A_FEED = 20;

        private final byte[] bytes;
        private int size;

        Tape() {
            bytes = new byte[MOST];
            size = 0;
        }

        int append(int a, int b, int c, int d, int e) {
            if (size + BYTES_A_FEED > MOST) {
                return NONE;
            }
            put(a);
            put(b);
            put(c);
            put(d);
            put(e);
            return size;
        }

        private void put(int number) {
            for (int shift = 24; shift >= 0; shift -= 8) {
                bytes[size] = (byte) (number >>> shift);
                size++;
            }
        }

        boolean keepFirst(int n) {
            if (n < 0 || n > size) {
                return false;
            }
            size = n;
            return true;
        }

        void clear() {
            size = 0;
        }

        boolean endsAt(int at) {
            return at >= size;
        }

        /** The first place at or behind a place whose byte is not from low to high. */
        int past(int at, char low, char high) {
            int behind = at;
            while (behind < size && bytes[behind] >= low && bytes[behind] <= high) {
                behind++;
            }
            return behind;
        }

        boolean reads(int from, int to, String word) {
            if (to - from != word.length()) {
                return false;
            }
            for (int i = from; i < to; i++) {
                if (bytes[i] != word.charAt(i - from)) {
                    return false;
                }
            }
            return true;
        }

        int digitsFrom(int from, int to) {
            int number = 0;
            for (int i = from; i < to; i++) {
                number = number * 10 + (bytes[i] - '0');
            }
            return number;
        }
    }

    /** The five numbers of the note that was read last. */
    private static final class Note {
        static final int JAR = 0;
        static final int OIL = 1;
        static final int MAKER = 2;
        static final int YEAR = 3;
        static final int DUE = 4;
        static final int PARTS = 5;
        static final int MOST_DIGITS = 5;

        private final int[] numbers;

        Note() {
            numbers = new int[PARTS];
        }

        /** The first wrong byte, or NONE. */
        int readFrom(Tape tape) {
            int at = 0;
            for (int part = 0; part < PARTS; part++) {
                at = tape.past(at, ' ', ' ');
                int wordEnd = tape.past(at, 'a', 'z');
                if (!tape.reads(at, wordEnd, wordOf(part))) {
                    return at;
                }
                at = tape.past(wordEnd, ' ', ' ');
                int digitsEnd = tape.past(at, '0', '9');
                if (digitsEnd == at || digitsEnd - at > MOST_DIGITS) {
                    return at;
                }
                numbers[part] = tape.digitsFrom(at, digitsEnd);
                at = digitsEnd;
            }
            at = tape.past(at, ' ', ' ');
            return tape.endsAt(at) ? NONE : at;
        }

        private static String wordOf(int part) {
            switch (part) {
                case JAR:
                    return "jar";
                case OIL:
                    return "oil";
                case MAKER:
                    return "maker";
                case YEAR:
                    return "year";
                default:
                    return "due";
            }
        }
    }

    /** The kinds of jars. */
    private static final class Kinds {
        static final int MOST = 8;
        static final int MOST_EMPTY = 100;
        static final int MOST_ROOM = 200;
        static final int MOST_BEARS = 5000;

        private final int[] empty;
        private final int[] room;
        private final int[] bears;
        private int size;

        Kinds() {
            empty = new int[MOST];
            room = new int[MOST];
            bears = new int[MOST];
            size = 0;
        }

        int add(int emptyWeight, int oilRoom, int bearsAbove) {
            empty[size] = emptyWeight;
            room[size] = oilRoom;
            bears[size] = bearsAbove;
            size++;
            return size - 1;
        }
    }

    /** The jars, wherever they are. */
    private static final class Jars {
        static final int MOST = 60;
        static final int IN_YARD = 0;
        static final int IN_SHIP = 1;
        static final int LANDED = 2;
        static final int BROKEN = 3;

        private final Kinds kinds;
        private final int[] kindOf;
        private final int[] maker;
        private final int[] year;
        private final int[] oil;
        private final int[] place;
        private final int[] pile;
        private int size;

        Jars(Kinds kinds) {
            this.kinds = kinds;
            kindOf = new int[MOST];
            maker = new int[MOST];
            year = new int[MOST];
            oil = new int[MOST];
            place = new int[MOST];
            pile = new int[MOST];
            size = 0;
        }

        int add(int kind, int firedBy, int firedIn) {
            kindOf[size] = kind;
            maker[size] = firedBy;
            year[size] = firedIn;
            oil[size] = 0;
            place[size] = IN_YARD;
            pile[size] = NONE;
            size++;
            return size - 1;
        }

        int pour(int jar, int more) {
            if (place[jar] != IN_YARD || oil[jar] + more > kinds.room[kindOf[jar]]) {
                return NONE;
            }
            oil[jar] += more;
            return oil[jar];
        }

        void move(int jar, int toPlace, int toPile) {
            place[jar] = toPlace;
            pile[jar] = toPile;
        }

        int weight(int jar) {
            return kinds.empty[kindOf[jar]] + oil[jar];
        }

        int bears(int jar) {
            return kinds.bears[kindOf[jar]];
        }

        int countIn(int wantedPlace) {
            int found = 0;
            for (int jar = 0; jar < size; jar++) {
                if (place[jar] == wantedPlace) {
                    found++;
                }
            }
            return found;
        }

        int oilUnbroken() {
            int sum = 0;
            for (int jar = 0; jar < size; jar++) {
                if (place[jar] != BROKEN) {
                    sum += oil[jar];
                }
            }
            return sum;
        }
    }

    /** The ships; a pile is the stack of one hold, numbered through all ships. */
    private static final class Fleet {
        static final int MOST = 4;
        static final int HOLDS = 6;
        static final int MOST_HIGH = 10;
        static final int MOST_STORM = 100;

        private final Jars jars;
        private final int[] stacked;
        private final int[] height;
        private int size;

        Fleet(Jars jars) {
            this.jars = jars;
            stacked = new int[MOST * HOLDS * MOST_HIGH];
            height = new int[MOST * HOLDS];
            size = 0;
        }

        static int pileOf(int ship, int hold) {
            return ship * HOLDS + hold;
        }

        static int shipOf(int pile) {
            return pile == NONE ? NONE : pile / HOLDS;
        }

        static int holdOf(int pile) {
            return pile == NONE ? NONE : pile % HOLDS;
        }

        int add() {
            size++;
            return size - 1;
        }

        int jarAt(int pile, int k) {
            return k < 0 || k >= height[pile] ? NONE : stacked[pile * MOST_HIGH + k];
        }

        boolean put(int jar, int pile) {
            if (jars.place[jar] != Jars.IN_YARD || height[pile] >= MOST_HIGH || !canBear(pile, jar)) {
                return false;
            }
            setTop(pile, jar);
            jars.move(jar, Jars.IN_SHIP, pile);
            return true;
        }

        private void setTop(int pile, int jar) {
            stacked[pile * MOST_HIGH + height[pile]] = jar;
            height[pile]++;
        }

        private boolean canBear(int pile, int newJar) {
            int above = jars.weight(newJar);
            for (int k = height[pile] - 1; k >= 0; k--) {
                int jar = stacked[pile * MOST_HIGH + k];
                if (above > jars.bears(jar)) {
                    return false;
                }
                above += jars.weight(jar);
            }
            return true;
        }

        int takeTop(int pile) {
            int top = jarAt(pile, height[pile] - 1);
            if (top != NONE) {
                height[pile]--;
                jars.move(top, Jars.LANDED, NONE);
            }
            return top;
        }

        int weightAbove(int lowerJar) {
            int pile = jars.pile[lowerJar];
            if (pile == NONE) {
                return 0;
            }
            int above = 0;
            for (int k = height[pile] - 1; k >= 0; k--) {
                int jar = stacked[pile * MOST_HIGH + k];
                if (jar == lowerJar) {
                    break;
                }
                above += jars.weight(jar);
            }
            return above;
        }

        int shake(int ship, int by) {
            int broken = 0;
            for (int hold = 0; hold < HOLDS; hold++) {
                int pile = pileOf(ship, hold);
                int before = height[pile];
                breakWeak(pile, by);
                closeGaps(pile);
                broken += before - height[pile];
            }
            return broken;
        }

        /** Broken jars stay in the pile here, for they still lie on those below them. */
        private void breakWeak(int pile, int by) {
            int above = 0;
            for (int k = height[pile] - 1; k >= 0; k--) {
                int jar = stacked[pile * MOST_HIGH + k];
                if (above > bearsInStorm(jar, by)) {
                    jars.move(jar, Jars.BROKEN, NONE);
                }
                above += jars.weight(jar);
            }
        }

        private int bearsInStorm(int jar, int by) {
            int bears = jars.bears(jar);
            return bears - (bears * by + 99) / 100;
        }

        private void closeGaps(int pile) {
            int before = height[pile];
            height[pile] = 0;
            for (int k = 0; k < before; k++) {
                int jar = stacked[pile * MOST_HIGH + k];
                if (jars.place[jar] == Jars.IN_SHIP) {
                    setTop(pile, jar);
                }
            }
        }
    }

    /** Finds the greatest stack that jars in the yard could make. */
    private static final class Stacker {
        static final int SET_BITS = 20;
        static final int MOST = 12;
        static final int TOO_HEAVY = 1000000000;

        private final Jars jars;
        private final int[] chosen;
        private final int[] lightest;
        private int size;

        Stacker(Jars jars) {
            this.jars = jars;
            chosen = new int[SET_BITS];
            lightest = new int[SET_BITS + 1];
            size = 0;
        }

        /** Keeps the jars of a set that are in the yard, as they would stand from above: how many. */
        int choose(int set) {
            size = 0;
            for (int jar = 0; jar < SET_BITS && jar < jars.size; jar++) {
                if ((set >> jar & 1) == 1 && jars.place[jar] == Jars.IN_YARD) {
                    insert(jar);
                }
            }
            return size;
        }

        private void insert(int jar) {
            int at = size;
            while (at > 0 && reach(chosen[at - 1]) > reach(jar)) {
                chosen[at] = chosen[at - 1];
                at--;
            }
            chosen[at] = jar;
            size++;
        }

        /**
         * If one jar bears another one of greater reach, they still bear all when they change
         * places: so some greatest stack has its jars from above in the order of their reach.
         */
        private int reach(int jar) {
            return jars.weight(jar) + jars.bears(jar);
        }

        /** A stack of as many jars is the easier to bear, the lighter it is: so the lightest is kept. */
        int greatest() {
            lightest[0] = 0;
            int most = 0;
            for (int i = 0; i < size; i++) {
                int jar = chosen[i];
                lightest[most + 1] = TOO_HEAVY;
                for (int high = most; high >= 0; high--) {
                    if (lightest[high] <= jars.bears(jar)) {
                        lightest[high + 1] = Math.min(lightest[high + 1], lightest[high] + jars.weight(jar));
                    }
                }
                if (lightest[most + 1] < TOO_HEAVY) {
                    most++;
                }
            }
            return most;
        }
    }

    /** The ports: their rates, and the notes that were checked there. */
    private static final class Ports {
        static final int ALL = 8;
        static final int FIRST_RATE = 10;
        static final int MOST_RATE = 1000;

        private final int[] rate;
        private final int[] checked;
        private final int[] foundFalse;

        Ports() {
            rate = new int[ALL];
            checked = new int[ALL];
            foundFalse = new int[ALL];
            for (int port = 0; port < ALL; port++) {
                rate[port] = FIRST_RATE;
            }
        }

        int due(int port, int oil) {
            return (oil * rate[port] + 9) / 10;
        }

        void countNote(int port, boolean isFalse) {
            checked[port]++;
            if (isFalse) {
                foundFalse[port]++;
            }
        }
    }

    /** The sherds; a vessel is known by the least number of its sherds. */
    private static final class Sherds {
        static final int MOST = 60;

        private final int[] first;
        /** Of a vessel, kept at its least sherd alone, as are its clay and its stamp. */
        private final int[] members;
        private final int[] clay;
        private final int[] stamp;
        private int size;

        Sherds() {
            first = new int[MOST];
            members = new int[MOST];
            clay = new int[MOST];
            stamp = new int[MOST];
            size = 0;
        }

        int add(int itsClay, int itsStamp) {
            first[size] = size;
            members[size] = 1;
            clay[size] = itsClay;
            stamp[size] = itsStamp;
            size++;
            return size - 1;
        }

        boolean unite(int a, int b) {
            int kept = Math.min(first[a], first[b]);
            int lost = Math.max(first[a], first[b]);
            if (kept == lost || !fit(kept, lost)) {
                return false;
            }
            for (int sherd = lost; sherd < size; sherd++) {
                if (first[sherd] == lost) {
                    first[sherd] = kept;
                }
            }
            members[kept] += members[lost];
            if (stamp[kept] == NONE) {
                stamp[kept] = stamp[lost];
            }
            return true;
        }

        private boolean fit(int one, int other) {
            boolean stampsFit = stamp[one] == NONE || stamp[other] == NONE || stamp[one] == stamp[other];
            return clay[one] == clay[other] && stampsFit;
        }

        int allVessels() {
            int found = 0;
            for (int sherd = 0; sherd < size; sherd++) {
                if (first[sherd] == sherd) {
                    found++;
                }
            }
            return found;
        }

        int vesselsWith(int wantedStamp) {
            int found = 0;
            for (int sherd = 0; sherd < size; sherd++) {
                if (first[sherd] == sherd && stamp[sherd] == wantedStamp) {
                    found++;
                }
            }
            return found;
        }
    }

    /**
     * The tellings. Each says that the year of one point is at least so many more than that of
     * another one; a point is a stamp, or the year 0, from which bounds are told. Tellings cannot
     * all hold just where some of them lead round in a ring to more than 0 years.
     */
    private static final class Tellings {
        static final int MOST = 60;
        static final int YEAR_ZERO = STAMPS;
        static final int POINTS = STAMPS + 1;
        static final int UNBOUNDED = -1000000000;

        private final int[] earlier;
        private final int[] later;
        private final int[] years;
        private final int[] toldOn;
        private final int[] takenBackOn;
        private final int[] known;
        private final int[] ahead;
        private final int[] next;
        private int size;
        private int knownSize;

        Tellings() {
            earlier = new int[MOST];
            later = new int[MOST];
            years = new int[MOST];
            toldOn = new int[MOST];
            takenBackOn = new int[MOST];
            known = new int[MOST];
            ahead = new int[POINTS];
            next = new int[POINTS];
            size = 0;
            knownSize = 0;
        }

        int add(int from, int to, int atLeast, int day) {
            earlier[size] = from;
            later[size] = to;
            years[size] = atLeast;
            toldOn[size] = day;
            takenBackOn[size] = NONE;
            size++;
            return size - 1;
        }

        boolean takeBack(int telling, int day) {
            if (takenBackOn[telling] != NONE) {
                return false;
            }
            takenBackOn[telling] = day;
            return true;
        }

        /** Keeps the tellings that are known on a day, for the questions that follow. */
        void recall(int day) {
            knownSize = 0;
            for (int telling = 0; telling < size; telling++) {
                boolean stands = takenBackOn[telling] == NONE || day < takenBackOn[telling];
                if (toldOn[telling] <= day && stands) {
                    known[knownSize] = telling;
                    knownSize++;
                }
            }
        }

        boolean canAllHold() {
            setAll(ahead, 0);
            return settles();
        }

        /** The most years by which known tellings that agree set a point ahead of another one. */
        int yearsBetween(int from, int to) {
            setAll(ahead, UNBOUNDED);
            ahead[from] = 0;
            settles();
            return ahead[to];
        }

        /** Years that still grow when every point had its turn go round in a ring. */
        private boolean settles() {
            for (int round = 0; round < POINTS; round++) {
                if (!pushOn()) {
                    return true;
                }
            }
            return false;
        }

        private boolean pushOn() {
            boolean grew = false;
            for (int i = 0; i < knownSize; i++) {
                int telling = known[i];
                int from = ahead[earlier[telling]];
                if (from != UNBOUNDED && from + years[telling] > ahead[later[telling]]) {
                    ahead[later[telling]] = from + years[telling];
                    grew = true;
                }
            }
            return grew;
        }

        /** The shortest ring; those of a point are looked at up to the shortest of earlier points. */
        int fewestThatQuarrel() {
            int fewest = POINTS + 1;
            for (int point = 0; point < POINTS; point++) {
                fewest = ringThrough(point, fewest);
            }
            return fewest;
        }

        /** The length of the shortest ring through a point, or the limit if none is below it. */
        private int ringThrough(int point, int limit) {
            setAll(ahead, UNBOUNDED);
            ahead[point] = 0;
            for (int length = 1; length < limit; length++) {
                stepOn();
                if (ahead[point] > 0) {
                    return length;
                }
            }
            return limit;
        }

        /** From the most years over just so many tellings to those over one more. */
        private void stepOn() {
            setAll(next, UNBOUNDED);
            for (int i = 0; i < knownSize; i++) {
                int telling = known[i];
                int from = ahead[earlier[telling]];
                if (from != UNBOUNDED && from + years[telling] > next[later[telling]]) {
                    next[later[telling]] = from + years[telling];
                }
            }
            System.arraycopy(next, 0, ahead, 0, POINTS);
        }

        private static void setAll(int[] row, int value) {
            for (int i = 0; i < row.length; i++) {
                row[i] = value;
            }
        }
    }
}
