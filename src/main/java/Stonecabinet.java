import java.util.Arrays;

/**
 * A cabinet of stones, as ../shared/DOC.md promises it. All that undo() brings back stands in one
 * State; the other classes inside read a State and keep rows of their own to count with, made once,
 * so that a call makes no objects but the exceptions that it throws and the first 15 kept States.
 */
public final class Stonecabinet {
    public static final int NONE = -1;

    private static final int MOST_STONES = 10;
    private static final int MOST_SCRATCHES = 40;
    private static final int MOST_TOLD = 60;
    private static final int MOST_SHOWS = 20;
    private static final int MOST_OFFERS = 8;
    private static final int MOST_BYTES = 300;
    private static final int MOST_UNDO = 15;
    private static final int MOST_LIGHT = 100000;
    private static final int MOST_DAYS = 400;
    private static final int DRAWERS = 4;
    private static final int KINDS = 6;
    private static final int MUSEUMS = 5;
    private static final int OUTSIDE = 6;
    private static final int FIRST_YEAR = 1900;
    private static final int LAST_YEAR = 2199;
    private static final int SETS = 1 << MOST_STONES;

    private final State state = new State();
    private final State trial = new State();
    private final State[] kept = new State[MOST_UNDO];
    private int keptNext = 0;
    private int keptCount = 0;
    private final Tape tape = new Tape();
    private final Catalogue catalogue = new Catalogue();
    private final Orders fitting = new Orders();
    private final Laying laying = new Laying();
    private final Stays known = new Stays();
    private final Exchange exchange = new Exchange();

    public Stonecabinet() {
    }

    // ---- The tape, stones.

    public int append(int a, int b, int c, int d, int e) throws IllegalStateException {
        int more = Tape.bytesIn(a) + Tape.bytesIn(b) + Tape.bytesIn(c) + Tape.bytesIn(d) + Tape.bytesIn(e);
        if (tape.length() + more > MOST_BYTES) {
            throw new IllegalStateException("the tape is too short");
        }
        tape.putBytes(a);
        tape.putBytes(b);
        tape.putBytes(c);
        tape.putBytes(d);
        tape.putBytes(e);
        return tape.length();
    }

    public int clearTape() {
        int before = tape.length();
        tape.empty();
        return before;
    }

    public int errorPosition() {
        return tape.error();
    }

    public int stone(int kind, int size, int weight, int value)
            throws IllegalArgumentException, IllegalStateException {
        boolean areInRange = State.isInRange(State.KIND, kind) && State.isInRange(State.SIZE, size)
                && State.isInRange(State.WEIGHT, weight) && State.isInRange(State.VALUE, value);
        int code = areInRange ? tape.codeOnIt() : 0;
        int error = areInRange ? tape.codeError() : NONE;
        if (error == NONE && areInRange && state.numberOf(code) != NONE) {
            error = 0;
        }
        tape.wasRead(error);
        if (!areInRange || error != NONE) {
            throw new IllegalArgumentException("no such stone can come");
        }
        if (state.stones.isFull()) {
            throw new IllegalStateException("there are 10 stones");
        }
        keepState();
        return state.addStone(code, kind, size, weight, value);
    }

    public int stones() {
        return state.stones.size();
    }

    public int stoneOf(int stone, int what) throws IndexOutOfBoundsException, IllegalArgumentException {
        needStone(stone);
        needRange(what, 0, 5);
        if (what == 5) {
            return state.placeOf(stone);
        }
        return state.stones.get(stone, what == 4 ? State.DRAWER : what);
    }

    // ---- Scratches.

    public int scratch(int one, int other)
            throws IndexOutOfBoundsException, IllegalArgumentException, IllegalStateException {
        needTwoStones(one, other);
        if (state.scratches.isFull()) {
            throw new IllegalStateException("40 scratches are told");
        }
        keepState();
        int number = state.scratches.add();
        state.scratches.set(number, State.HARDER, one);
        state.scratches.set(number, State.SOFTER, other);
        return number;
    }

    public int unscratch(int number) throws IndexOutOfBoundsException {
        if (!state.scratches.has(number)) {
            throw new IndexOutOfBoundsException("no such scratch");
        }
        keepState();
        state.scratches.remove(number);
        return state.scratches.size();
    }

    public int ring() {
        fitting.lookAt(state);
        return fitting.ringSize();
    }

    public int ringAt(int place) throws IndexOutOfBoundsException {
        fitting.lookAt(state);
        if (place < 0 || place >= fitting.ringSize()) {
            throw new IndexOutOfBoundsException("no such place in a ring");
        }
        return fitting.ringStone(place);
    }

    public int orders() {
        fitting.lookAt(state);
        return fitting.total();
    }

    public int rank(int stone, boolean isGreatest) throws IndexOutOfBoundsException {
        needStone(stone);
        fitting.lookAt(state);
        int found = NONE;
        for (int place = 0; place < MOST_STONES; place++) {
            if (fitting.countAt(stone, place) > 0 && (isGreatest || found == NONE)) {
                found = place;
            }
        }
        return found;
    }

    public int withRank(int stone, int rank) throws IndexOutOfBoundsException, IllegalArgumentException {
        needStone(stone);
        needRange(rank, 0, MOST_STONES - 1);
        fitting.lookAt(state);
        return fitting.countAt(stone, rank);
    }

    public int harder(int one, int other) throws IndexOutOfBoundsException, IllegalArgumentException {
        needTwoStones(one, other);
        fitting.lookAt(state);
        return fitting.countAhead(one, other);
    }

    public int shareOf(int one, int other, boolean isUnder)
            throws IndexOutOfBoundsException, IllegalArgumentException {
        needTwoStones(one, other);
        fitting.lookAt(state);
        int over = fitting.countAhead(one, other);
        int under = fitting.total();
        int common = greatestDivisor(under, over);
        if (common <= 0) {
            return isUnder ? 1 : 0;
        }
        return (isUnder ? under : over) / common;
    }

    public int nextTest(boolean isWorth) {
        fitting.lookAt(state);
        return fitting.total() == 0 ? NONE : fitting.bestTest(isWorth);
    }

    public int orderAt(int rank) throws IndexOutOfBoundsException {
        fitting.lookAt(state);
        if (rank < 0 || rank >= state.stones.size() || fitting.total() == 0) {
            throw new IndexOutOfBoundsException("no such rank in an order");
        }
        return fitting.stoneInFirst(rank);
    }

    // ---- Drawers.

    public int setDrawer(int drawer, int size, int weight)
            throws IllegalArgumentException, IllegalStateException {
        needRange(drawer, 0, DRAWERS - 1);
        needRange(size, 0, 99);
        needRange(weight, 0, 999);
        if (state.sumIn(drawer, State.SIZE) > size || state.sumIn(drawer, State.WEIGHT) > weight) {
            throw new IllegalStateException("more lies in the drawer");
        }
        keepState();
        int held = state.drawers.get(drawer, State.HELD_SIZE);
        state.drawers.set(drawer, State.HELD_SIZE, size);
        state.drawers.set(drawer, State.HELD_WEIGHT, weight);
        return held;
    }

    public boolean part(int one, int other, boolean arePartedNow)
            throws IllegalArgumentException, IllegalStateException {
        needRange(one, 0, KINDS - 1);
        needRange(other, 0, KINDS - 1);
        // That they may lie together is never against what lies: only parting can be.
        if (arePartedNow && state.lieTogether(one, other)) {
            throw new IllegalStateException("stones of these kinds lie together");
        }
        keepState();
        boolean wereParted = state.areParted(one, other);
        state.setParted(one, other, arePartedNow);
        return wereParted;
    }

    public int lay(int stone, int drawer) throws IndexOutOfBoundsException, IllegalArgumentException {
        needStone(stone);
        needRange(drawer, NONE, DRAWERS - 1);
        keepState();
        int before = state.stones.get(stone, State.DRAWER);
        state.stones.set(stone, State.DRAWER, drawer);
        int why = drawer == NONE ? 0 : state.whyNot(drawer);
        if (why != 0) {
            state.stones.set(stone, State.DRAWER, before);
        }
        return why;
    }

    public int lies(int drawer, int what) throws IllegalArgumentException {
        needRange(drawer, 0, DRAWERS - 1);
        needRange(what, 0, 2);
        if (what == 0) {
            return state.countIn(drawer);
        }
        return state.sumIn(drawer, what == 1 ? State.SIZE : State.WEIGHT);
    }

    public int layAll(boolean isNearest) {
        keepState();
        if (!laying.isFound(state, isNearest)) {
            return NONE;
        }
        int moved = 0;
        for (int stone = 0; stone < state.stones.size(); stone++) {
            int before = state.stones.get(stone, State.DRAWER);
            int now = laying.drawerFor(stone);
            if (before != NONE && before != now) {
                moved++;
            }
            state.stones.set(stone, State.DRAWER, now);
        }
        return moved;
    }

    // ---- Hands.

    public int tell(int stone, int date, int hand)
            throws IndexOutOfBoundsException, IllegalArgumentException, IllegalStateException {
        needStone(stone);
        needDate(date);
        needRange(hand, 0, OUTSIDE);
        if (state.told.isFull()) {
            throw new IllegalStateException("60 are told");
        }
        keepState();
        state.clock++;
        int number = state.told.add();
        state.told.set(number, State.OF_STONE, stone);
        state.told.set(number, State.ON_DATE, date);
        state.told.set(number, State.IN_HAND, hand);
        state.told.set(number, State.TOLD_AT, state.clock);
        state.told.set(number, State.TAKEN_AT, NONE);
        return number;
    }

    public int takeBack(int number) throws IndexOutOfBoundsException, IllegalStateException {
        if (!state.told.has(number)) {
            throw new IndexOutOfBoundsException("nothing such was told");
        }
        if (state.told.get(number, State.TAKEN_AT) != NONE) {
            throw new IllegalStateException("it was taken back");
        }
        keepState();
        state.clock++;
        state.told.set(number, State.TAKEN_AT, state.clock);
        return state.clock;
    }

    public int time() {
        return state.clock;
    }

    public int handOn(int stone, int date, int time) throws IndexOutOfBoundsException, IllegalArgumentException {
        needStone(stone);
        needDate(date);
        needRange(time, 0, state.clock);
        known.lookAt(state, stone, time);
        return known.handAt(date);
    }

    public int stays(int stone, int time) throws IndexOutOfBoundsException, IllegalArgumentException {
        needStone(stone);
        needRange(time, 0, state.clock);
        known.lookAt(state, stone, time);
        return known.size();
    }

    public int stayAt(int stone, int stay, int what) throws IndexOutOfBoundsException, IllegalArgumentException {
        needStone(stone);
        known.lookAt(state, stone, state.clock);
        if (stay < 0 || stay >= known.size()) {
            throw new IndexOutOfBoundsException("no such stay");
        }
        needRange(what, 0, 2);
        if (what == 0) {
            return known.handOf(stay);
        }
        return what == 1 ? known.firstOf(stay) : known.lastOf(stay);
    }

    public int away(int stone, int from, int to) throws IndexOutOfBoundsException, IllegalArgumentException {
        needStone(stone);
        needDates(from, to);
        known.lookAt(state, stone, state.clock);
        int days = 0;
        for (int stay = 0; stay < known.size(); stay++) {
            if (known.handOf(stay) != 0) {
                days += known.daysWithin(stay, Calendar.dayOf(from), Calendar.dayOf(to));
            }
        }
        return days;
    }

    public long fee(int stone, int from, int to) throws IndexOutOfBoundsException, IllegalArgumentException {
        needStone(stone);
        needDates(from, to);
        known.lookAt(state, stone, state.clock);
        long handDays = 0;
        for (int stay = 0; stay < known.size(); stay++) {
            int hand = known.handOf(stay);
            if (hand != OUTSIDE) {
                handDays += (long) hand * known.daysWithin(stay, Calendar.dayOf(from), Calendar.dayOf(to));
            }
        }
        return handDays * state.stones.get(stone, State.VALUE) / 1000;
    }

    public int inHand(int hand, int date) throws IllegalArgumentException {
        needRange(hand, 0, OUTSIDE);
        needDate(date);
        int count = 0;
        for (int stone = 0; stone < state.stones.size(); stone++) {
            known.lookAt(state, stone, state.clock);
            if (known.handAt(date) == hand) {
                count++;
            }
        }
        return count;
    }

    // ---- Light.

    public int setLight(int stone, int light)
            throws IndexOutOfBoundsException, IllegalArgumentException, IllegalStateException {
        needStone(stone);
        needRange(light, 0, MOST_LIGHT);
        if (Lights.isOver(state, stone, light)) {
            throw new IllegalStateException("the stone has more light in a year");
        }
        keepState();
        int before = state.stones.get(stone, State.LIGHT);
        state.stones.set(stone, State.LIGHT, light);
        return before;
    }

    public int show(int stone, int date, int days, int light)
            throws IndexOutOfBoundsException, IllegalArgumentException, IllegalStateException {
        needStone(stone);
        needDate(date);
        needRange(days, 1, MOST_DAYS);
        needRange(light, 1, 1000);
        needRange(days, 1, Calendar.daysLeft(date));
        if (state.shows.isFull() || days > Lights.daysPossible(state, stone, date, light)) {
            throw new IllegalStateException("20 shows are told, or it is too much light");
        }
        keepState();
        int number = state.shows.add();
        state.shows.set(number, State.SHOWN, stone);
        state.shows.set(number, State.FROM_DATE, date);
        state.shows.set(number, State.FOR_DAYS, days);
        state.shows.set(number, State.A_DAY, light);
        return number;
    }

    public int light(int stone, int year) throws IndexOutOfBoundsException, IllegalArgumentException {
        needStone(stone);
        needRange(year, FIRST_YEAR, LAST_YEAR);
        return Lights.inYear(state, stone, year);
    }

    public int mostDays(int stone, int date, int light) throws IndexOutOfBoundsException, IllegalArgumentException {
        needStone(stone);
        needDate(date);
        needRange(light, 1, 1000);
        return Lights.daysPossible(state, stone, date, light);
    }

    // ---- Exchanges.

    public int offer(int museum, int gives, int wants) throws IllegalArgumentException, IllegalStateException {
        needRange(museum, 0, MUSEUMS - 1);
        needRange(gives, 0, KINDS - 1);
        needRange(wants, 0, KINDS - 1);
        if (gives == wants) {
            throw new IllegalArgumentException("both kinds are the same");
        }
        if (state.offers.isFull()) {
            throw new IllegalStateException("8 offers are told");
        }
        keepState();
        int number = state.offers.add();
        state.offers.set(number, State.MUSEUM, museum);
        state.offers.set(number, State.GIVES, gives);
        state.offers.set(number, State.WANTS, wants);
        return number;
    }

    public int clearOffers() {
        keepState();
        int before = state.offers.size();
        state.offers.clear();
        return before;
    }

    public int plan() {
        exchange.lookAt(state.offers);
        return exchange.inPlan();
    }

    public int getsFrom(int offer) throws IndexOutOfBoundsException {
        if (!state.offers.has(offer)) {
            throw new IndexOutOfBoundsException("no such offer");
        }
        exchange.lookAt(state.offers);
        return exchange.giverOf(offer);
    }

    public int rings() {
        exchange.lookAt(state.offers);
        return exchange.countRings();
    }

    // ---- Catalogues.

    public int join() throws IllegalArgumentException, IllegalStateException {
        int error = catalogue.errorOn(tape);
        tape.wasRead(error);
        if (error != NONE) {
            throw new IllegalArgumentException("the text has an error");
        }
        trial.copyFrom(state);
        if (!catalogue.isJoinedTo(trial) || !trial.allLieAsTheyMay()) {
            throw new IllegalStateException("the catalogue is refused");
        }
        keepState();
        int came = trial.stones.size() - state.stones.size();
        state.copyFrom(trial);
        return came;
    }

    public int write() {
        return catalogue.writeOut(state);
    }

    public char writtenAt(int index) throws IndexOutOfBoundsException {
        if (index < 0 || index >= catalogue.signs()) {
            throw new IndexOutOfBoundsException("no such sign");
        }
        return catalogue.signAt(index);
    }

    // ---- Undo, figures, second ways.

    public int undo() {
        int latest = keptNext == 0 ? MOST_UNDO - 1 : keptNext - 1;
        if (keptCount == 0 || kept[latest] == null) {
            return NONE;
        }
        state.copyFrom(kept[latest]);
        keptNext = latest;
        keptCount--;
        return keptCount;
    }

    public int checksum() {
        int sum = 17;
        for (int stone = 0; stone < state.stones.size(); stone++) {
            sum = 31 * sum + state.stones.get(stone, State.KIND) + state.stones.get(stone, State.SIZE)
                    + state.stones.get(stone, State.WEIGHT) + state.stones.get(stone, State.VALUE)
                    + state.stones.get(stone, State.DRAWER);
        }
        return sum;
    }

    public double meanValue() {
        int count = state.stones.size();
        if (count <= 0) {
            return 0.0;
        }
        int sum = 0;
        for (int stone = 0; stone < count; stone++) {
            sum += state.stones.get(stone, State.VALUE);
        }
        return (double) sum / (double) count;
    }

    public float laidShare() {
        int count = state.stones.size();
        if (count <= 0) {
            return 0.0f;
        }
        int laid = 0;
        for (int drawer = 0; drawer < DRAWERS; drawer++) {
            laid += state.countIn(drawer);
        }
        return (float) laid / (float) count;
    }

    public int errors() {
        fitting.lookAt(state);
        int wrong = fitting.miscounts();
        for (int drawer = 0; drawer < DRAWERS; drawer++) {
            if (state.whyNot(drawer) != 0) {
                wrong++;
            }
        }
        for (int stone = 0; stone < state.stones.size(); stone++) {
            if (Lights.isOver(state, stone, state.stones.get(stone, State.LIGHT))) {
                wrong++;
            }
            known.lookAt(state, stone, state.clock);
            wrong += known.gaps();
        }
        return wrong;
    }

    // ---- What several calls need.

    private void needStone(int stone) {
        if (!state.stones.has(stone)) {
            throw new IndexOutOfBoundsException("no such stone");
        }
    }

    private void needTwoStones(int one, int other) {
        needStone(one);
        needStone(other);
        if (one == other) {
            throw new IllegalArgumentException("both are the same stone");
        }
    }

    private static void needRange(int number, int least, int most) {
        if (number < least || number > most) {
            throw new IllegalArgumentException("a number is out of range");
        }
    }

    private static void needDate(int date) {
        if (!Calendar.isDate(date)) {
            throw new IllegalArgumentException("no date in its range");
        }
    }

    private static void needDates(int from, int to) {
        needDate(from);
        needDate(to);
        if (to < from) {
            throw new IllegalArgumentException("the last day is ahead of the first one");
        }
    }

    /** Called by each change before it touches the state: the state that undo() goes back to. */
    private void keepState() {
        if (kept[keptNext] == null) {
            kept[keptNext] = new State();
        }
        kept[keptNext].copyFrom(state);
        keptNext = keptNext == MOST_UNDO - 1 ? 0 : keptNext + 1;
        keptCount = Math.min(MOST_UNDO, keptCount + 1);
    }

    private static int greatestDivisor(int one, int other) {
        int greater = one;
        int lesser = other;
        for (int step = 0; step < 64 && lesser > 0; step++) {
            int rest = greater % lesser;
            greater = lesser;
            lesser = rest;
        }
        return greater;
    }

    /** Rows of numbers, at most so many; looking or writing beyond them does nothing. */
    private static final class Table {
        private final int columns;
        private final int[] cells;
        private int rows = 0;

        Table(int mostRows, int columns) {
            this.columns = Math.max(1, columns);
            this.cells = new int[Math.max(0, mostRows) * Math.max(1, columns)];
        }

        int size() {
            return rows;
        }

        boolean has(int row) {
            return row >= 0 && row < rows;
        }

        boolean isFull() {
            return (rows + 1) * columns > cells.length;
        }

        int get(int row, int column) {
            boolean isThere = row >= 0 && row < rows && column >= 0 && column < columns;
            return isThere ? cells[row * columns + column] : 0;
        }

        void set(int row, int column, int number) {
            if (row >= 0 && row < rows && column >= 0 && column < columns) {
                cells[row * columns + column] = number;
            }
        }

        /** A new row of zeros; NONE if there is no room. */
        int add() {
            if (isFull()) {
                return NONE;
            }
            rows++;
            for (int column = 0; column < columns; column++) {
                set(rows - 1, column, 0);
            }
            return rows - 1;
        }

        void remove(int row) {
            if (has(row)) {
                int start = row * columns;
                System.arraycopy(cells, start + columns, cells, start, (rows - row - 1) * columns);
                rows--;
            }
        }

        void clear() {
            rows = 0;
        }

        /** Only of a table made alike. */
        void copyFrom(Table other) {
            if (other.columns == columns && other.cells.length == cells.length) {
                System.arraycopy(other.cells, 0, cells, 0, other.rows * columns);
                rows = other.rows;
            }
        }
    }

    /** All that undo() brings back, and what lies where. */
    private static final class State {
        static final int KIND = 0;
        static final int SIZE = 1;
        static final int WEIGHT = 2;
        static final int VALUE = 3;
        static final int CODE = 4;
        static final int DRAWER = 5;
        static final int LIGHT = 6;
        static final int HARDER = 0;
        static final int SOFTER = 1;
        static final int HELD_SIZE = 0;
        static final int HELD_WEIGHT = 1;
        static final int OF_STONE = 0;
        static final int ON_DATE = 1;
        static final int IN_HAND = 2;
        static final int TOLD_AT = 3;
        static final int TAKEN_AT = 4;
        static final int SHOWN = 0;
        static final int FROM_DATE = 1;
        static final int FOR_DAYS = 2;
        static final int A_DAY = 3;
        static final int MUSEUM = 0;
        static final int GIVES = 1;
        static final int WANTS = 2;

        private final Table stones = new Table(MOST_STONES, 7);
        private final Table scratches = new Table(MOST_SCRATCHES, 2);
        private final Table drawers = new Table(DRAWERS, 2);
        private final Table parted = new Table(KINDS, KINDS);
        private final Table told = new Table(MOST_TOLD, 5);
        private final Table shows = new Table(MOST_SHOWS, 4);
        private final Table offers = new Table(MOST_OFFERS, 3);
        private int clock = 0;

        State() {
            for (int drawer = 0; drawer < DRAWERS; drawer++) {
                drawers.add();
                drawers.set(drawer, HELD_SIZE, 20);
                drawers.set(drawer, HELD_WEIGHT, 200);
            }
            for (int kind = 0; kind < KINDS; kind++) {
                parted.add();
            }
        }

        void copyFrom(State other) {
            stones.copyFrom(other.stones);
            scratches.copyFrom(other.scratches);
            drawers.copyFrom(other.drawers);
            parted.copyFrom(other.parted);
            told.copyFrom(other.told);
            shows.copyFrom(other.shows);
            offers.copyFrom(other.offers);
            clock = other.clock;
        }

        static boolean isInRange(int column, int number) {
            switch (column) {
                case KIND:
                    return number >= 0 && number < KINDS;
                case SIZE:
                    return number >= 1 && number <= 9;
                case WEIGHT:
                    return number >= 1 && number <= 99;
                default:
                    return number >= 0 && number <= 10000;
            }
        }

        int addStone(int code, int kind, int size, int weight, int value) {
            int number = stones.add();
            stones.set(number, CODE, code);
            stones.set(number, KIND, kind);
            stones.set(number, SIZE, size);
            stones.set(number, WEIGHT, weight);
            stones.set(number, VALUE, value);
            stones.set(number, DRAWER, NONE);
            stones.set(number, LIGHT, 5000);
            return number;
        }

        int numberOf(int code) {
            for (int stone = 0; stone < stones.size(); stone++) {
                if (stones.get(stone, CODE) == code) {
                    return stone;
                }
            }
            return NONE;
        }

        int placeOf(int stone) {
            int place = 0;
            for (int other = 0; other < stones.size(); other++) {
                if (stones.get(other, CODE) < stones.get(stone, CODE)) {
                    place++;
                }
            }
            return place;
        }

        int countIn(int drawer) {
            int count = 0;
            for (int stone = 0; stone < stones.size(); stone++) {
                if (stones.get(stone, DRAWER) == drawer) {
                    count++;
                }
            }
            return count;
        }

        int sumIn(int drawer, int column) {
            int sum = 0;
            for (int stone = 0; stone < stones.size(); stone++) {
                if (stones.get(stone, DRAWER) == drawer) {
                    sum += stones.get(stone, column);
                }
            }
            return sum;
        }

        boolean areParted(int one, int other) {
            return parted.get(one, other) != 0;
        }

        void setParted(int one, int other, boolean areParted) {
            parted.set(one, other, areParted ? 1 : 0);
            parted.set(other, one, areParted ? 1 : 0);
        }

        boolean lieTogether(int kind, int otherKind) {
            for (int stone = 0; stone < stones.size(); stone++) {
                for (int other = 0; other < stones.size(); other++) {
                    if (areInOneDrawer(stone, other) && stones.get(stone, KIND) == kind
                            && stones.get(other, KIND) == otherKind) {
                        return true;
                    }
                }
            }
            return false;
        }

        private boolean areInOneDrawer(int stone, int other) {
            int drawer = stones.get(stone, DRAWER);
            return stone != other && drawer != NONE && drawer == stones.get(other, DRAWER);
        }

        /** Why a drawer may not hold what lies in it (1 size, 2 weight, 3 kinds); 0 if it may. */
        int whyNot(int drawer) {
            if (sumIn(drawer, SIZE) > drawers.get(drawer, HELD_SIZE)) {
                return 1;
            }
            if (sumIn(drawer, WEIGHT) > drawers.get(drawer, HELD_WEIGHT)) {
                return 2;
            }
            for (int stone = 0; stone < stones.size(); stone++) {
                for (int other = 0; other < stone; other++) {
                    if (stones.get(stone, DRAWER) == drawer && areInOneDrawer(stone, other)
                            && areParted(stones.get(stone, KIND), stones.get(other, KIND))) {
                        return 3;
                    }
                }
            }
            return 0;
        }

        boolean allLieAsTheyMay() {
            for (int drawer = 0; drawer < DRAWERS; drawer++) {
                if (whyNot(drawer) != 0) {
                    return false;
                }
            }
            return true;
        }
    }

    /**
     * The orders that fit, counted over sets of stones (a bit each): those that can stand ahead, and
     * for each the ways to order it and the ways to go on. What was counted is kept until other
     * scratches, or more stones, are looked at.
     */
    private static final class Orders {
        private final int[] fresh = new int[MOST_STONES];
        private final int[] softer = new int[MOST_STONES];
        private final int[] harderOnes = new int[MOST_STONES];
        private final int[] ahead = new int[SETS];
        private final int[] behind = new int[SETS];
        private final int[] atRank = new int[MOST_STONES * MOST_STONES];
        private final int[] ofPair = new int[MOST_STONES * MOST_STONES];
        private final int[] reaching = new int[MOST_STONES + 1];
        private final int[] ringStones = new int[MOST_STONES];
        private int ringLength = 0;
        private int count = NONE;

        void lookAt(State state) {
            int stones = Math.min(state.stones.size(), MOST_STONES);
            boolean isSame = stones == count;
            readScratches(state.scratches);
            for (int stone = 0; stone < MOST_STONES; stone++) {
                isSame = isSame && fresh[stone] == softer[stone];
            }
            if (!isSame) {
                count = stones;
                takeScratches();
                countWaysAhead();
                countWaysBehind();
                findRing();
            }
        }

        private void readScratches(Table scratches) {
            Arrays.fill(fresh, 0);
            for (int number = 0; number < scratches.size(); number++) {
                int one = scratches.get(number, State.HARDER);
                int other = scratches.get(number, State.SOFTER);
                if (isStone(one) && isStone(other)) {
                    fresh[one] |= 1 << other;
                }
            }
        }

        private static boolean isStone(int number) {
            return number >= 0 && number < MOST_STONES;
        }

        private void takeScratches() {
            Arrays.fill(harderOnes, 0);
            for (int stone = 0; stone < MOST_STONES; stone++) {
                softer[stone] = fresh[stone];
                for (int other = 0; other < MOST_STONES; other++) {
                    if ((fresh[stone] >> other & 1) != 0) {
                        harderOnes[other] |= 1 << stone;
                    }
                }
            }
        }

        private int fullSet() {
            return count <= 0 ? 0 : (1 << count) - 1;
        }

        private boolean canBeNext(int stone, int set) {
            return (set >> stone & 1) == 0 && (harderOnes[stone] & ~set) == 0;
        }

        private void countWaysAhead() {
            Arrays.fill(ahead, 0);
            int full = fullSet();
            ahead[0] = 1;
            for (int set = 0; set <= full; set++) {
                for (int stone = 0; ahead[set] > 0 && stone < count; stone++) {
                    if (canBeNext(stone, set)) {
                        ahead[set | 1 << stone] += ahead[set];
                    }
                }
            }
        }

        /** A set that never stands ahead is left out: no order goes by it. */
        private void countWaysBehind() {
            Arrays.fill(behind, 0);
            Arrays.fill(atRank, 0);
            Arrays.fill(ofPair, 0);
            int full = fullSet();
            behind[full] = 1;
            for (int set = full - 1; set >= 0; set--) {
                for (int stone = 0; ahead[set] > 0 && stone < count; stone++) {
                    if (canBeNext(stone, set)) {
                        int next = set | 1 << stone;
                        behind[set] += behind[next];
                        addWays(set, stone, ahead[set] * behind[next]);
                    }
                }
            }
        }

        private void addWays(int set, int stone, int ways) {
            if (ways > 0) {
                atRank[stone * MOST_STONES + Integer.bitCount(set)] += ways;
                addPairs(set, stone, ways);
            }
        }

        private void addPairs(int set, int stone, int ways) {
            for (int other = 0; other < count; other++) {
                if ((set >> other & 1) != 0) {
                    ofPair[other * MOST_STONES + stone] += ways;
                }
            }
        }

        int total() {
            return ahead[fullSet()];
        }

        int countAt(int stone, int rank) {
            return isStone(stone) && isStone(rank) ? atRank[stone * MOST_STONES + rank] : 0;
        }

        int countAhead(int one, int other) {
            return isStone(one) && isStone(other) ? ofPair[one * MOST_STONES + other] : 0;
        }

        /** The worth of the next test, or 10 times its first stone plus the second one. */
        int bestTest(boolean isWorth) {
            int least = NONE;
            int test = NONE;
            for (int one = 0; one < count; one++) {
                for (int other = one + 1; other < count; other++) {
                    int worth = Math.max(countAhead(one, other), countAhead(other, one));
                    if (least == NONE || worth < least) {
                        least = worth;
                        test = 10 * one + other;
                    }
                }
            }
            return isWorth ? least : test;
        }

        int stoneInFirst(int rank) {
            int set = 0;
            int latest = NONE;
            for (int place = 0; place <= rank && place < count; place++) {
                latest = NONE;
                for (int stone = 0; stone < count && latest == NONE; stone++) {
                    if (canBeNext(stone, set)) {
                        latest = stone;
                    }
                }
                set |= latest == NONE ? 0 : 1 << latest;
            }
            return latest;
        }

        /** Rings are looked for from their least stone on, so that the first shortest one is the one. */
        private void findRing() {
            ringLength = 0;
            for (int start = 0; start < count; start++) {
                int steps = stepsRound(start);
                if (steps > 0 && (ringLength == 0 || steps < ringLength)) {
                    ringLength = steps;
                    walkRing(start);
                }
            }
        }

        /** The fewest steps from a stone through greater ones to itself; 0 if there is no such way. */
        private int stepsRound(int start) {
            reaching[0] = 1 << start;
            for (int steps = 1; steps <= count; steps++) {
                if ((softer[start] & reaching[steps - 1]) != 0) {
                    return steps;
                }
                reaching[steps] = 0;
                for (int stone = start + 1; stone < count; stone++) {
                    if ((softer[stone] & reaching[steps - 1]) != 0) {
                        reaching[steps] |= 1 << stone;
                    }
                }
            }
            return 0;
        }

        private void walkRing(int start) {
            int latest = start;
            ringStones[0] = start;
            for (int place = 1; place < ringLength; place++) {
                latest = leastOf(softer[latest] & reaching[ringLength - place]);
                ringStones[place] = latest;
            }
        }

        private static int leastOf(int set) {
            for (int stone = 0; stone < MOST_STONES; stone++) {
                if ((set >> stone & 1) != 0) {
                    return stone;
                }
            }
            return 0;
        }

        int ringSize() {
            return ringLength;
        }

        int ringStone(int place) {
            return isStone(place) ? ringStones[place] : NONE;
        }

        /** How often the counts are against what must hold between them. */
        int miscounts() {
            int wrong = (ringLength > 0) == (total() > 0) ? 1 : 0;
            for (int one = 0; one < count; one++) {
                int sum = 0;
                for (int rank = 0; rank < count; rank++) {
                    sum += countAt(one, rank);
                }
                wrong += sum == total() ? 0 : 1;
                for (int other = one + 1; other < count; other++) {
                    wrong += countAhead(one, other) + countAhead(other, one) == total() ? 0 : 1;
                }
            }
            return wrong;
        }
    }

    /**
     * The best laying, found over sets of stones. A laying costs its moved stones first and then its
     * drawers as a number with a digit for each stone; so the cheapest one is the one, and its cost
     * tells its drawers.
     */
    private static final class Laying {
        private static final int NEVER = 1 << 28;
        private static final int MOVED = 1 << 2 * MOST_STONES;

        private final int[] sizes = new int[SETS];
        private final int[] weights = new int[SETS];
        private final int[] held = new int[SETS];
        private final int[] best = new int[SETS];
        private final int[] prices = new int[MOST_STONES];
        private int count = 0;
        private int cost = NEVER;

        boolean isFound(State state, boolean isNearest) {
            count = Math.min(state.stones.size(), MOST_STONES);
            int full = (1 << count) - 1;
            sumSets(state);
            for (int drawer = 0; drawer < DRAWERS; drawer++) {
                setPrices(state.stones, drawer, isNearest);
                priceSets(state.drawers, drawer);
                if (drawer == 0) {
                    System.arraycopy(held, 0, best, 0, full + 1);
                } else {
                    // The last drawer matters for the set of all stones alone.
                    addDrawer(drawer == DRAWERS - 1 ? full : 0);
                }
            }
            cost = best[full];
            return cost < NEVER;
        }

        int drawerFor(int stone) {
            return stone < 0 || stone >= MOST_STONES ? NONE : cost >> digitOf(stone) & 3;
        }

        private static int digitOf(int stone) {
            return 2 * (MOST_STONES - 1 - stone);
        }

        /** A set that may not lie together is told as one that is too large for each drawer. */
        private void sumSets(State state) {
            sizes[0] = 0;
            weights[0] = 0;
            for (int stone = 0; stone < count; stone++) {
                int bit = 1 << stone;
                int parted = partedFrom(state, stone);
                int size = state.stones.get(stone, State.SIZE);
                int weight = state.stones.get(stone, State.WEIGHT);
                for (int set = 0; set < bit; set++) {
                    boolean isParted = (set & parted) != 0;
                    sizes[set | bit] = isParted ? NEVER : Math.min(NEVER, sizes[set] + size);
                    weights[set | bit] = weights[set] + weight;
                }
            }
        }

        private static int partedFrom(State state, int stone) {
            int set = 0;
            for (int other = 0; other < stone; other++) {
                if (state.areParted(state.stones.get(stone, State.KIND), state.stones.get(other, State.KIND))) {
                    set |= 1 << other;
                }
            }
            return set;
        }

        private void setPrices(Table stones, int drawer, boolean isNearest) {
            for (int stone = 0; stone < count; stone++) {
                int before = stones.get(stone, State.DRAWER);
                boolean isMoved = isNearest && before != NONE && before != drawer;
                prices[stone] = (drawer << digitOf(stone)) + (isMoved ? MOVED : 0);
            }
        }

        private void priceSets(Table drawers, int drawer) {
            int size = drawers.get(drawer, State.HELD_SIZE);
            int weight = drawers.get(drawer, State.HELD_WEIGHT);
            held[0] = 0;
            for (int stone = 0; stone < count; stone++) {
                int bit = 1 << stone;
                for (int set = 0; set < bit; set++) {
                    boolean doesFit = held[set] < NEVER && sizes[set | bit] <= size && weights[set | bit] <= weight;
                    held[set | bit] = doesFit ? held[set] + prices[stone] : NEVER;
                }
            }
        }

        /** From the full set down, so that what is left of a set is still priced without the drawer. */
        private void addDrawer(int leastSet) {
            int full = (1 << count) - 1;
            for (int set = full; set >= leastSet; set--) {
                int least = best[set];
                for (int part = set; part > 0; part = (part - 1) & set) {
                    int sum = held[part] + best[set ^ part];
                    if (sum < least) {
                        least = sum;
                    }
                }
                best[set] = least;
            }
        }
    }

    /** The stays of one stone, as they were known at a time. */
    private static final class Stays {
        private final int[] firsts = new int[MOST_TOLD + 1];
        private final int[] hands = new int[MOST_TOLD + 1];
        private int count = 0;

        void lookAt(State state, int stone, int time) {
            Table told = state.told;
            firsts[0] = NONE;
            hands[0] = OUTSIDE;
            count = 1;
            for (int number = 0; number < told.size(); number++) {
                if (told.get(number, State.OF_STONE) == stone && isKnown(told, number, time)) {
                    insert(told.get(number, State.ON_DATE), told.get(number, State.IN_HAND));
                }
            }
            meltSameHands();
        }

        private static boolean isKnown(Table told, int number, int time) {
            int taken = told.get(number, State.TAKEN_AT);
            return told.get(number, State.TOLD_AT) <= time && (taken == NONE || taken > time);
        }

        /** What is told later comes later, so that it takes the place of what stands for its day. */
        private void insert(int date, int hand) {
            int place = count;
            while (place > 1 && firsts[place - 1] >= date) {
                place--;
            }
            if (place < count && firsts[place] == date) {
                hands[place] = hand;
            } else if (count < firsts.length) {
                System.arraycopy(firsts, place, firsts, place + 1, count - place);
                System.arraycopy(hands, place, hands, place + 1, count - place);
                firsts[place] = date;
                hands[place] = hand;
                count++;
            }
        }

        private void meltSameHands() {
            int left = 1;
            for (int stay = 1; stay < count; stay++) {
                if (hands[stay] != hands[left - 1]) {
                    firsts[left] = firsts[stay];
                    hands[left] = hands[stay];
                    left++;
                }
            }
            count = left;
        }

        int size() {
            return count;
        }

        int handOf(int stay) {
            return stay >= 0 && stay < count ? hands[stay] : NONE;
        }

        int firstOf(int stay) {
            return stay >= 0 && stay < count ? firsts[stay] : NONE;
        }

        int lastOf(int stay) {
            return stay >= 0 && stay < count - 1 ? Calendar.dateAhead(firsts[stay + 1]) : NONE;
        }

        int handAt(int date) {
            int hand = OUTSIDE;
            for (int stay = 0; stay < count; stay++) {
                if (firsts[stay] <= date) {
                    hand = hands[stay];
                }
            }
            return hand;
        }

        int daysWithin(int stay, int fromDay, int toDay) {
            int first = firstOf(stay) == NONE ? fromDay : Math.max(fromDay, Calendar.dayOf(firstOf(stay)));
            int last = lastOf(stay) == NONE ? toDay : Math.min(toDay, Calendar.dayOf(lastOf(stay)));
            return Math.max(0, last - first + 1);
        }

        /** Stays that do not begin on the day behind the last one of that ahead. */
        int gaps() {
            int found = 0;
            for (int stay = 1; stay < count; stay++) {
                if (Calendar.dayOf(firsts[stay]) != Calendar.dayOf(lastOf(stay - 1)) + 1) {
                    found++;
                }
            }
            return found;
        }
    }

    /** How much light the stones have by their shows. */
    private static final class Lights {
        static int inYear(State state, int stone, int year) {
            int sum = 0;
            for (int number = 0; number < state.shows.size(); number++) {
                if (state.shows.get(number, State.SHOWN) == stone) {
                    int first = Calendar.dayOf(state.shows.get(number, State.FROM_DATE));
                    int end = first + state.shows.get(number, State.FOR_DAYS);
                    int days = Math.min(end, Calendar.newYear(year + 1)) - Math.max(first, Calendar.newYear(year));
                    sum += Math.max(0, days) * state.shows.get(number, State.A_DAY);
                }
            }
            return sum;
        }

        /** Only years with a show of the stone can be over. */
        static boolean isOver(State state, int stone, int most) {
            for (int number = 0; number < state.shows.size(); number++) {
                if (state.shows.get(number, State.SHOWN) == stone && isOverDuring(state, number, most)) {
                    return true;
                }
            }
            return false;
        }

        private static boolean isOverDuring(State state, int number, int most) {
            int date = state.shows.get(number, State.FROM_DATE);
            int end = Calendar.dayOf(date) + state.shows.get(number, State.FOR_DAYS);
            for (int year = date / 10000; year <= LAST_YEAR && Calendar.newYear(year) < end; year++) {
                if (inYear(state, state.shows.get(number, State.SHOWN), year) > most) {
                    return true;
                }
            }
            return false;
        }

        static int daysPossible(State state, int stone, int date, int light) {
            int most = Math.min(MOST_DAYS, Calendar.daysLeft(date));
            int day = Calendar.dayOf(date);
            int days = 0;
            for (int year = date / 10000; year <= LAST_YEAR && days < most && light > 0; year++) {
                int inYear = Calendar.newYear(year + 1) - day - days;
                int room = (state.stones.get(stone, State.LIGHT) - inYear(state, stone, year)) / light;
                if (room < inYear) {
                    return Math.min(most, days + Math.max(0, room));
                }
                days += inYear;
            }
            return Math.min(most, days);
        }
    }

    /** Dates as numbers, and days counted from 19000101 as day 0. */
    private static final class Calendar {
        private static final int[] DAYS_AHEAD_OF_MONTH = {0, 31, 59, 90, 120, 151, 181, 212, 243, 273, 304, 334, 365};

        private static boolean isLeap(int year) {
            return year % 4 == 0 && (year % 100 != 0 || year % 400 == 0);
        }

        private static int daysAhead(int year, int month) {
            int place = Math.max(0, Math.min(12, month - 1));
            return DAYS_AHEAD_OF_MONTH[place] + (month > 2 && isLeap(year) ? 1 : 0);
        }

        private static int daysIn(int year, int month) {
            return daysAhead(year, month + 1) - daysAhead(year, month);
        }

        static boolean isDate(int date) {
            int year = date / 10000;
            int month = date / 100 % 100;
            int day = date % 100;
            return year >= FIRST_YEAR && year <= LAST_YEAR && month >= 1 && month <= 12
                    && day >= 1 && day <= daysIn(year, month);
        }

        private static int leapsAhead(int year) {
            return (year - 1) / 4 - (year - 1) / 100 + (year - 1) / 400;
        }

        static int newYear(int year) {
            return 365 * (year - FIRST_YEAR) + leapsAhead(year) - leapsAhead(FIRST_YEAR);
        }

        static int dayOf(int date) {
            int year = date / 10000;
            return newYear(year) + daysAhead(year, date / 100 % 100) + date % 100 - 1;
        }

        static int daysLeft(int date) {
            return newYear(LAST_YEAR + 1) - dayOf(date);
        }

        /** The date of the day ahead of a date. */
        static int dateAhead(int date) {
            int year = date / 10000;
            int month = date / 100 % 100;
            if (date % 100 > 1) {
                return date - 1;
            }
            if (month > 1) {
                return 10000 * year + 100 * (month - 1) + daysIn(year, month - 1);
            }
            return 10000 * (year - 1) + 1231;
        }
    }

    /**
     * The best plan. An offer that is not in it counts as getting from itself, so that each plan gives
     * each offer just one. A plan costs the offers that are not in it first, then whom the offers get
     * from as digits; so the cheapest one is the one, and its cost tells whom they get from.
     */
    private static final class Exchange {
        private static final int[] DIGITS = {4782969, 531441, 59049, 6561, 729, 81, 9, 1};
        private static final int OUT_OF_PLAN = 43046721;
        private static final int NEVER = 1 << 30;

        private final int[] costs = new int[1 << MOST_OFFERS];
        private final int[] givers = new int[MOST_OFFERS];
        private int count = 0;
        private int planned = 0;

        void lookAt(Table offers) {
            count = Math.min(offers.size(), MOST_OFFERS);
            int full = (1 << count) - 1;
            costs[0] = 0;
            for (int set = 1; set <= full; set++) {
                costs[set] = leastCost(offers, set);
            }
            planned = count - costs[full] / OUT_OF_PLAN;
            for (int offer = 0; offer < count; offer++) {
                int giver = costs[full] % OUT_OF_PLAN / digitOf(offer) % 9;
                givers[offer] = giver == 8 ? NONE : giver;
            }
        }

        private static int digitOf(int offer) {
            return offer >= 0 && offer < DIGITS.length ? Math.max(1, DIGITS[offer]) : 1;
        }

        /** The first offers, as many as the set has givers, get from these givers. */
        private int leastCost(Table offers, int set) {
            int offer = Integer.bitCount(set) - 1;
            int least = NEVER;
            for (int giver = 0; giver < count; giver++) {
                if ((set >> giver & 1) != 0 && (giver == offer || canGive(offers, giver, offer))) {
                    int price = giver == offer ? OUT_OF_PLAN + 8 * digitOf(offer) : giver * digitOf(offer);
                    least = Math.min(least, costs[set ^ 1 << giver] + price);
                }
            }
            return least;
        }

        private static boolean canGive(Table offers, int giver, int taker) {
            return offers.get(giver, State.MUSEUM) != offers.get(taker, State.MUSEUM)
                    && offers.get(giver, State.GIVES) == offers.get(taker, State.WANTS);
        }

        int inPlan() {
            return planned;
        }

        int giverOf(int offer) {
            return offer >= 0 && offer < count ? givers[offer] : NONE;
        }

        int countRings() {
            int found = 0;
            int seen = 0;
            for (int offer = 0; offer < count; offer++) {
                if (giverOf(offer) != NONE && (seen >> offer & 1) == 0) {
                    found++;
                    int next = offer;
                    for (int step = 0; step < count && next != NONE; step++) {
                        seen |= 1 << next;
                        next = giverOf(next);
                    }
                }
            }
            return found;
        }
    }

    /** The tape, and the error position of the latest call that read it. */
    private static final class Tape {
        private final int[] bytes = new int[MOST_BYTES];
        private int count = 0;
        private int errorAt = NONE;

        static int bytesIn(int four) {
            int found = 0;
            for (int shift = 24; shift >= 0; shift -= 8) {
                found += (four >>> shift & 255) == 0 ? 0 : 1;
            }
            return found;
        }

        void putBytes(int four) {
            for (int shift = 24; shift >= 0; shift -= 8) {
                int next = four >>> shift & 255;
                if (next != 0 && count < bytes.length) {
                    bytes[count] = next;
                    count++;
                }
            }
        }

        int length() {
            return count;
        }

        int byteAt(int index) {
            return index >= 0 && index < count ? bytes[index] : 0;
        }

        void empty() {
            count = 0;
        }

        int error() {
            return errorAt;
        }

        void wasRead(int error) {
            count = 0;
            errorAt = error;
        }

        /** Codes are kept as numbers, their letters from the highest byte on: so they go as texts go. */
        int codeFrom(int start, int letters) {
            int code = 0;
            for (int place = 0; place < 4; place++) {
                code = code << 8 | (place < letters ? byteAt(start + place) : 0);
            }
            return code;
        }

        int codeOnIt() {
            return codeFrom(0, Math.min(4, count));
        }

        /** The first byte that keeps the whole tape from being a code; NONE if it is one. */
        int codeError() {
            for (int index = 0; index < count; index++) {
                if (index == 4 || !isLetter(byteAt(index))) {
                    return index;
                }
            }
            return count == 0 ? 0 : NONE;
        }

        static boolean isLetter(int sign) {
            return sign >= 'a' && sign <= 'z';
        }

        static boolean isDigit(int sign) {
            return sign >= '0' && sign <= '9';
        }
    }

    /** Reads a catalogue from a tape, joins it to a state, and writes one. */
    private static final class Catalogue {
        private static final int END = 0;
        private static final int WORD = 1;
        private static final int NUMBER = 2;
        private static final int SEMICOLON = 3;
        private static final int NO_TOKEN = 4;
        private static final int SEMICOLON_PLACE = 5;
        private static final int MOST_SIGNS = 18 * MOST_STONES;

        // No entry is shorter than 9 bytes, so that a tape never holds more of them.
        private final Table entries = new Table(MOST_BYTES / 9, 5);
        private final char[] written = new char[MOST_SIGNS];
        private int writtenCount = 0;
        private int token = END;
        private int tokenStart = 0;
        private int tokenEnd = 0;
        private int tokenValue = 0;

        /** Reads the entries; the error position, or NONE. */
        int errorOn(Tape tape) {
            entries.clear();
            tokenEnd = 0;
            int place = 0;
            for (int step = 0; step <= MOST_BYTES; step++) {
                readToken(tape);
                if (token == END) {
                    return place == 0 ? NONE : tape.length();
                }
                if (!doesFit(place)) {
                    return tokenStart;
                }
                takeToken(place);
                place = place == SEMICOLON_PLACE ? 0 : place + 1;
            }
            return tape.length();
        }

        private void readToken(Tape tape) {
            int at = tokenEnd;
            while (at < tape.length() && (tape.byteAt(at) == 32 || tape.byteAt(at) == 10)) {
                at++;
            }
            tokenStart = at;
            int sign = tape.byteAt(at);
            if (at >= tape.length()) {
                token = END;
            } else if (Tape.isLetter(sign)) {
                readWord(tape);
            } else if (Tape.isDigit(sign)) {
                readNumber(tape);
            } else {
                token = sign == ';' ? SEMICOLON : NO_TOKEN;
                tokenEnd = at + 1;
            }
        }

        private void readWord(Tape tape) {
            int at = tokenStart;
            while (at < tape.length() && Tape.isLetter(tape.byteAt(at))) {
                at++;
            }
            tokenEnd = at;
            token = at - tokenStart <= 4 ? WORD : NO_TOKEN;
            tokenValue = tape.codeFrom(tokenStart, at - tokenStart);
        }

        private void readNumber(Tape tape) {
            int at = tokenStart;
            tokenValue = 0;
            while (at < tape.length() && Tape.isDigit(tape.byteAt(at))) {
                tokenValue = 10 * tokenValue + tape.byteAt(at) - '0';
                at++;
            }
            tokenEnd = at;
            token = at - tokenStart <= 5 ? NUMBER : NO_TOKEN;
        }

        /** Place 0 is that of a code, 1 to 4 are those of the numbers. */
        private boolean doesFit(int place) {
            if (place == 0) {
                return token == WORD && !hasEntry(tokenValue);
            }
            if (place == SEMICOLON_PLACE) {
                return token == SEMICOLON;
            }
            return token == NUMBER && State.isInRange(place - 1, tokenValue);
        }

        private void takeToken(int place) {
            if (place == 0) {
                entries.add();
                entries.set(entries.size() - 1, State.CODE, tokenValue);
            } else if (place != SEMICOLON_PLACE) {
                entries.set(entries.size() - 1, place - 1, tokenValue);
            }
        }

        private boolean hasEntry(int code) {
            for (int entry = 0; entry < entries.size(); entry++) {
                if (entries.get(entry, State.CODE) == code) {
                    return true;
                }
            }
            return false;
        }

        /** Joins the entries in the order of codes; false if there is no room for a stone. */
        boolean isJoinedTo(State state) {
            int latest = 0;
            for (int step = 0; step < entries.size(); step++) {
                int entry = rowBehind(entries, latest);
                latest = entries.get(entry, State.CODE);
                int stone = state.numberOf(latest);
                if (stone == NONE && state.stones.isFull()) {
                    return false;
                }
                if (stone == NONE) {
                    state.addStone(latest, entries.get(entry, State.KIND), entries.get(entry, State.SIZE),
                            entries.get(entry, State.WEIGHT), entries.get(entry, State.VALUE));
                } else {
                    raise(state.stones, stone, entry);
                }
            }
            return true;
        }

        /** The row with the least code that is greater than one, of stones or of entries. */
        private static int rowBehind(Table rows, int code) {
            int found = NONE;
            for (int row = 0; row < rows.size(); row++) {
                int other = rows.get(row, State.CODE);
                if (other > code && (found == NONE || other < rows.get(found, State.CODE))) {
                    found = row;
                }
            }
            return found;
        }

        private void raise(Table stones, int stone, int entry) {
            for (int column = State.KIND; column <= State.VALUE; column++) {
                stones.set(stone, column, Math.max(stones.get(stone, column), entries.get(entry, column)));
            }
        }

        int writeOut(State state) {
            writtenCount = 0;
            int latest = 0;
            for (int place = 0; place < state.stones.size(); place++) {
                int stone = rowBehind(state.stones, latest);
                latest = state.stones.get(stone, State.CODE);
                putCode(latest);
                for (int column = State.KIND; column <= State.VALUE; column++) {
                    putSign(' ');
                    putNumber(state.stones.get(stone, column));
                }
                putSign(';');
            }
            return writtenCount;
        }

        private void putCode(int code) {
            for (int shift = 24; shift >= 0; shift -= 8) {
                int letter = code >>> shift & 255;
                if (letter != 0) {
                    putSign((char) letter);
                }
            }
        }

        private void putNumber(int number) {
            for (int unit = 10000; unit > 0; unit /= 10) {
                if (number >= unit || unit == 1) {
                    putSign((char) ('0' + number / unit % 10));
                }
            }
        }

        private void putSign(char sign) {
            if (writtenCount < written.length) {
                written[writtenCount] = sign;
                writtenCount++;
            }
        }

        int signs() {
            return writtenCount;
        }

        char signAt(int index) {
            return index >= 0 && index < writtenCount ? written[index] : ' ';
        }
    }
}
