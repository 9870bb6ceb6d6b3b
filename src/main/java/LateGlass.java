import java.util.Arrays;

/** A house of mirrors that are late; ../shared/DOC.md says what each call answers. */
public final class LateGlass {
    public static final int NONE = -1;

    private static final int CELLS = 64;
    private static final int HOURS = 24;
    private static final int WAYS = 4;
    private static final int STAYING = 4;
    private static final int SORTS = 6;
    private static final int FIRST_FLAT = 2;
    private static final int MOST_DUST = 10;
    private static final int MOST_BRIGHT = 1000000;
    private static final int LEAST_AT_FIRST = 1000;
    private static final int MOST_STEPS = 200;

    private static final int MOST_GLASSES = 6;
    private static final int MOST_BODIES = 5;
    private static final int MOST_LAWS = 6;
    private static final int MOST_SIGHTINGS = 10;
    private static final int MOST_SEEN = 5;
    private static final int MOST_SPOTS = 8;
    private static final int MOST_WISHES = 6;
    private static final int IMAGES = 2;

    private static final int MOST_BYTES = 400;
    private static final int FEED_BYTES = 20;
    private static final int STAY_BYTES = 4;
    private static final int OUT_BYTE = 255;

    private static final int BAD_NUMBER = -1;
    private static final int NO_SUCH = -2;
    private static final int CANNOT_BE = -3;
    private static final int NO_ROOM = -5;
    private static final int BAD_TEXT = -6;

    private static final int CELL = 0;
    private static final int SORT = 1;
    private static final int LATE = 2;
    private static final int DUST = 3;
    private static final int COVERED = 4;
    private static final int GLASS_WIDTH = 5;

    private static final int LOOK_CELL = 0;
    private static final int LOOK_WAY = 1;
    private static final int LOOK_HOUR = 2;
    private static final int SIGHT_SEEN = 3;
    private static final int SIGHT_WIDTH = 4;
    private static final int WISH_AT = 3;
    private static final int WISH_THEN = 4;
    private static final int WISH_IS = 5;
    private static final int WISH_WIDTH = 6;

    private static final int MOST_CLAUSES = 12;
    private static final int MOST_PARTS = 50;
    private static final int MOST_DEPTH = 8;
    private static final int MOST_NUMBER = 1000;
    private static final long MOST_SUM = 1000000000L;

    /** Each word is followed by a blank; its place in the row is its number. */
    private static final String WORDS =
        "late dust covers clear if or and not glass x y hour way body steps bright ";
    private static final int HEADS = 4;
    private static final int HEAD_LATE = 0;
    private static final int HEAD_DUST = 1;
    private static final int HEAD_COVERS = 2;
    private static final int HEAD_CLEAR = 3;
    private static final int FIRST_ASKED = 8;
    private static final int ASKED = 8;

    /** A single byte is a token of its own number; the others stand above the bytes. */
    private static final int TOKEN_WORD = 256;
    private static final int TOKEN_IF = TOKEN_WORD + 4;
    private static final int TOKEN_OR = TOKEN_WORD + 5;
    private static final int TOKEN_AND = TOKEN_WORD + 6;
    private static final int TOKEN_NOT = TOKEN_WORD + 7;
    private static final int TOKEN_NUMBER = 300;
    private static final int TOKEN_UNKNOWN = 301;
    private static final int TOKEN_END = 302;

    private static final int OP_NUMBER = 0;
    private static final int OP_WORD = 1;
    private static final int OP_ADD = 2;
    private static final int OP_SUBTRACT = 3;
    private static final int OP_TIMES = 4;
    private static final int OP_DIVIDE = 5;
    private static final int OP_LESS = 6;
    private static final int OP_MORE = 7;
    private static final int OP_SAME = 8;
    private static final int OP_NOT = 9;
    private static final int OP_IF = 10;
    private static final int OP_OR = 11;
    private static final int OP_AND = 12;
    private static final int OP_SHIFT = 12;
    private static final int OP_MASK = 4095;

    private static final int MASKS = 32;
    /** Of a set of masks (one bit a mask): those masks that have bit k. */
    private static final int[] HAVING =
        {0xAAAAAAAA, 0xCCCCCCCC, 0xF0F0F0F0, 0xFF00FF00, 0xFFFF0000};
    /** The ways to a thief's next cell by rising cell, for the first row. */
    private static final int[] LOWEST_FIRST = {0, 3, STAYING, 1, 2};
    private static final long WEST_EDGE = 0x0101010101010101L;
    private static final long EAST_EDGE = 0x8080808080808080L;

    private static final int MOST_SEED = 1000000;
    private static final long DRAW_TIMES = 1103L;
    private static final long DRAW_MORE = 12345L;
    private static final long DRAW_MODULO = 1000003L;
    private static final int DRAW_OF = 5;

    private static final int COUNT_WALLS = 6;
    private static final int COUNT_TAPE = 7;
    private static final int COUNT_REFUSED = 8;
    private static final int COUNT_FORCE = 13;

    private final House house = new House();
    private final House[] images = {new House(), new House()};
    private final boolean[] kept = new boolean[IMAGES];
    private final Look eye = new Look(house);
    private final Watch watch = new Watch(house, eye);
    private final Thief thief = new Thief(house, eye);
    private final Hanger hanger = new Hanger(house, eye);
    private final Walker walker = new Walker(house, eye);
    private final LawReader reader = new LawReader();
    private final int[] tape = new int[MOST_BYTES];
    private int tapeLength = 0;
    private int fadedStays = 0;
    private int faultPlace = NONE;
    private final int[] wandering = new int[HOURS];
    private boolean wandered = false;
    private final int[] refusals = new int[COUNT_FORCE - COUNT_REFUSED];
    private int latestRefusal = 0;

    public LateGlass() {
    }

    public int wall(int cell, int is) {
        if (!isCell(cell) || !isFlag(is)) {
            return refuse(BAD_NUMBER);
        }
        if (house.isTaken(cell)) {
            return refuse(CANNOT_BE);
        }
        int was = isOn(house.walls, cell) ? 1 : 0;
        house.walls = is == 1 ? house.walls | 1L << cell : house.walls & ~(1L << cell);
        return done(was);
    }

    public int glass(int cell, int sort, int late, int dust) {
        if (!isCell(cell) || !isSort(sort) || !isHour(late) || !isDust(dust)) {
            return refuse(BAD_NUMBER);
        }
        if (!house.canHang(cell)) {
            return refuse(CANNOT_BE);
        }
        if (house.glasses.isFull()) {
            return refuse(NO_ROOM);
        }
        int number = house.glasses.open(0);
        house.glasses.set(number, CELL, cell);
        house.glasses.set(number, SORT, sort);
        house.glasses.set(number, LATE, late);
        house.glasses.set(number, DUST, dust);
        house.glassBoard |= 1L << cell;
        return done(number);
    }

    public int turn(int glass, int what, int value) {
        if (!isTurn(what, value)) {
            return refuse(BAD_NUMBER);
        }
        if (!house.glasses.has(glass)) {
            return refuse(NO_SUCH);
        }
        int was = house.glasses.get(glass, what + SORT);
        house.glasses.set(glass, what + SORT, value);
        return done(was);
    }

    public int of(int glass, int what) {
        return house.glasses.get(glass, what);
    }

    public int body() {
        if (house.bodies.isFull()) {
            return refuse(NO_ROOM);
        }
        return done(house.bodies.open(NONE));
    }

    public int stay(int body, int from, int to, int cell) {
        if (!isStay(from, to, cell)) {
            return refuse(BAD_NUMBER);
        }
        if (!house.bodies.has(body)) {
            return refuse(NO_SUCH);
        }
        if (house.isWalled(cell)) {
            return refuse(CANNOT_BE);
        }
        house.put(body, from, to, cell);
        return done(0);
    }

    public int where(int body, int hour) {
        return house.bodies.get(body, hour);
    }

    public int least(int bright) {
        if (bright < 0 || bright > MOST_BRIGHT) {
            return refuse(BAD_NUMBER);
        }
        int was = house.least;
        house.least = bright;
        return done(was);
    }

    public int feed(int a, int b, int c, int d, int e) {
        if (tapeLength + FEED_BYTES > MOST_BYTES) {
            return NONE;
        }
        write(a);
        write(b);
        write(c);
        write(d);
        write(e);
        return tapeLength;
    }

    public int end(int n) {
        if (n < 0 || n > tapeLength) {
            return NONE;
        }
        tapeLength = n;
        return n;
    }

    public int row() {
        if (tapeLength == 0) {
            return refuse(BAD_TEXT);
        }
        int came = 0;
        int gone = 0;
        for (int at = 0; at < tapeLength; at += STAY_BYTES) {
            if (readStay(at)) {
                came++;
            } else {
                gone++;
            }
        }
        fadedStays = gone;
        tapeLength = 0;
        return done(came);
    }

    public int faded() {
        return fadedStays;
    }

    public int law() {
        int length = tapeLength;
        tapeLength = 0;
        if (house.lawCount >= MOST_LAWS) {
            return refuse(NO_ROOM);
        }
        Law read = reader.read(tape, length);
        faultPlace = reader.faultPlace;
        if (read == null) {
            return refuse(BAD_TEXT);
        }
        house.laws[house.lawCount] = read;
        house.lawCount++;
        return done(house.lawCount - 1);
    }

    public int fault() {
        return faultPlace;
    }

    public int force(int law) {
        if (law < NONE || law >= house.lawCount) {
            return refuse(NO_SUCH);
        }
        int was = house.forced;
        house.forced = law;
        return done(was);
    }

    public int look(int cell, int way, int hour, int what) {
        if (!isLook(cell, way, hour)) {
            return NONE;
        }
        eye.run(cell, way, hour, 0);
        switch (what) {
            case 0:
                return eye.seen;
            case 1:
                return eye.length;
            case 2:
                return eye.lastHour;
            case 3:
                return eye.bright;
            case 4:
                return eye.went;
            default:
                return NONE;
        }
    }

    public int point(int cell, int way, int hour, int i) {
        if (!isLook(cell, way, hour)) {
            return NONE;
        }
        eye.run(cell, way, hour, 0);
        return i >= 0 && i < eye.length ? eye.points[i] : NONE;
    }

    public int sees(int cell, int hour) {
        if (!isCell(cell) || !isHour(hour)) {
            return NONE;
        }
        return eye.bodiesFrom(cell, hour);
    }

    public int late(int body, int other, int hour) {
        if (!house.bodies.has(other)) {
            return NONE;
        }
        int cell = house.bodies.get(body, hour);
        return cell == NONE ? NONE : eye.lateness(cell, hour, other);
    }

    public int first(int body, int what) {
        if (!house.bodies.has(body) || what < 0 || what > 2) {
            return NONE;
        }
        for (int hour = 0; hour < HOURS; hour++) {
            for (int other = 0; other < house.bodies.rows; other++) {
                int cell = other == body ? NONE : house.bodies.get(other, hour);
                int by = cell == NONE ? NONE : eye.lateness(cell, hour, body);
                if (by != NONE) {
                    return what == 0 ? hour : what == 1 ? other : by;
                }
            }
        }
        return NONE;
    }

    public int lit(int cell, int hour, int what) {
        if (!isCell(cell) || !isHour(hour) || !isCellOrNone(what)) {
            return NONE;
        }
        long board = eye.cellsFrom(cell, hour);
        if (what == NONE) {
            return Long.bitCount(board);
        }
        return isOn(board, what) ? 1 : 0;
    }

    public int unseen(int cell) {
        if (!isCell(cell)) {
            return NONE;
        }
        watch.lookAround();
        int hours = 0;
        for (int hour = 0; hour < HOURS; hour++) {
            if (!isOn(watch.boards[hour], cell)) {
                hours++;
            }
        }
        return hours;
    }

    public int sighting(int cell, int way, int hour, int seen) {
        if (!isLook(cell, way, hour) || !isFlag(seen)) {
            return refuse(BAD_NUMBER);
        }
        if (house.sightings.isFull() || seen == 1 && house.countSeen() >= MOST_SEEN) {
            return refuse(NO_ROOM);
        }
        int number = house.sightings.open(0);
        house.sightings.setLook(number, cell, way, hour);
        house.sightings.set(number, SIGHT_SEEN, seen);
        return done(house.sightings.rows);
    }

    public int drop(int sighting) {
        if (!house.sightings.has(sighting)) {
            return refuse(NO_SUCH);
        }
        house.sightings.remove(sighting);
        return done(house.sightings.rows);
    }

    public int start(int cell) {
        if (!isCellOrNone(cell)) {
            return refuse(BAD_NUMBER);
        }
        if (house.isWalled(cell)) {
            return refuse(CANNOT_BE);
        }
        int was = house.start;
        house.start = cell;
        return done(was);
    }

    public long fits() {
        thief.load(thief.allSightings());
        return thief.countRows();
    }

    public long could(int hour, int cell) {
        if (!isHour(hour) || !isCellOrNone(cell)) {
            return NONE;
        }
        thief.load(thief.allSightings());
        if (cell == NONE) {
            return Long.bitCount(thief.cellsIn(hour));
        }
        thief.barred[hour] |= ~(1L << cell);
        return thief.countRows();
    }

    public int path(int hour) {
        if (!isHour(hour)) {
            return NONE;
        }
        thief.load(thief.allSightings());
        return thief.firstRowAt(hour);
    }

    public int core() {
        return thief.findCore();
    }

    public long tells(int cell, int way, int hour) {
        if (!isLook(cell, way, hour)) {
            return NONE;
        }
        thief.load(thief.allSightings());
        long all = thief.countRows();
        eye.run(cell, way, hour, 0);
        thief.barPoints();
        return all - thief.countRows();
    }

    public int surely(int hour) {
        if (!isHour(hour)) {
            return NONE;
        }
        thief.load(thief.allSightings());
        long board = thief.cellsIn(hour);
        return Long.bitCount(board) == 1 ? Long.numberOfTrailingZeros(board) : NONE;
    }

    public int spot(int cell, int sort, int late) {
        if (!isCell(cell) || !isSort(sort) || !isHour(late)) {
            return refuse(BAD_NUMBER);
        }
        if (!house.canHang(cell)) {
            return refuse(CANNOT_BE);
        }
        if (house.spots.isFull()) {
            return refuse(NO_ROOM);
        }
        int number = house.spots.open(0);
        house.spots.set(number, CELL, cell);
        house.spots.set(number, SORT, sort);
        house.spots.set(number, LATE, late);
        return done(number);
    }

    public int wish(int cell, int way, int hour, int at, int then, int is) {
        if (!isLook(cell, way, hour) || !isCell(at) || !isHour(then) || !isFlag(is)) {
            return refuse(BAD_NUMBER);
        }
        if (house.wishes.isFull()) {
            return refuse(NO_ROOM);
        }
        int number = house.wishes.open(0);
        house.wishes.setLook(number, cell, way, hour);
        house.wishes.set(number, WISH_AT, at);
        house.wishes.set(number, WISH_THEN, then);
        house.wishes.set(number, WISH_IS, is);
        return done(house.wishes.rows);
    }

    public int lacks(int spots) {
        if (spots < 0 || spots >= 1 << house.spots.rows) {
            return NONE;
        }
        return hanger.lacking(spots);
    }

    public int hang(int what) {
        if (what < 0 || what > 2) {
            return NONE;
        }
        hanger.search();
        return what == 0 ? hanger.fewest : what == 1 ? hanger.choices : hanger.lowest;
    }

    public int soonest(int body, int cell, int hour) {
        if (!canWalk(body, cell, hour)) {
            return NONE;
        }
        return walker.firstSight(body, cell, hour, HOURS);
    }

    public int way(int body, int cell, int hour, int at) {
        if (!canWalk(body, cell, hour) || at < hour) {
            return NONE;
        }
        int last = walker.firstSight(body, cell, hour, HOURS);
        return last == NONE || at > last ? NONE : walker.firstRowAt(cell, hour, last, at);
    }

    public int sooner(int body, int cell, int hour, int what) {
        if (!canWalk(body, cell, hour) || what < 0 || what > 2) {
            return NONE;
        }
        int without = walker.firstSight(body, cell, hour, HOURS);
        int best = without == NONE ? HOURS : without;
        int answer = NONE;
        for (int glass = 0; glass < house.glasses.rows; glass++) {
            int sort = house.glasses.get(glass, SORT);
            for (int other = 0; other < SORTS; other++) {
                house.glasses.set(glass, SORT, other);
                // Only what is sooner than the best is looked for: the first of alike ones stays.
                int found = other == sort ? NONE : walker.sightBy(glass, body, cell, hour, best);
                if (found != NONE) {
                    best = found;
                    answer = what == 0 ? found : what == 1 ? glass : other;
                }
            }
            house.glasses.set(glass, SORT, sort);
        }
        return answer;
    }

    public int wander(int seed, int cell) {
        if (seed < 0 || seed > MOST_SEED || !isCell(cell)) {
            return refuse(BAD_NUMBER);
        }
        if (isOn(house.walls, cell)) {
            return refuse(CANNOT_BE);
        }
        watch.lookAround();
        wandered = true;
        long drawn = seed;
        int at = cell;
        int hours = 0;
        for (int hour = 0; hour < HOURS; hour++) {
            if (hour > 0) {
                drawn = (drawn * DRAW_TIMES + DRAW_MORE) % DRAW_MODULO;
                int next = beside(at, (int) (drawn % DRAW_OF));
                at = next == NONE || isOn(house.walls, next) ? at : next;
            }
            wandering[hour] = at;
            if (isOn(watch.boards[hour], at)) {
                hours++;
            }
        }
        return done(hours);
    }

    public int drawn(int hour) {
        return wandered && isHour(hour) ? wandering[hour] : NONE;
    }

    public int image(int k) {
        if (!isImage(k)) {
            return refuse(BAD_NUMBER);
        }
        images[k].copyFrom(house);
        kept[k] = true;
        return done(0);
    }

    public int back(int k) {
        if (!isImage(k)) {
            return refuse(BAD_NUMBER);
        }
        if (!kept[k]) {
            return refuse(NO_SUCH);
        }
        house.copyFrom(images[k]);
        return done(0);
    }

    public int count(int what) {
        if (what >= COUNT_REFUSED && what < COUNT_FORCE) {
            return refusals[what - COUNT_REFUSED];
        }
        switch (what) {
            case 0:
                return house.glasses.rows;
            case 1:
                return house.bodies.rows;
            case 2:
                return house.lawCount;
            case 3:
                return house.sightings.rows;
            case 4:
                return house.spots.rows;
            case 5:
                return house.wishes.rows;
            case COUNT_WALLS:
                return Long.bitCount(house.walls);
            case COUNT_TAPE:
                return tapeLength;
            case COUNT_FORCE:
                return house.forced;
            default:
                return NONE;
        }
    }

    public int status() {
        return latestRefusal;
    }

    private int done(int answer) {
        latestRefusal = 0;
        return answer;
    }

    private int refuse(int why) {
        latestRefusal = why;
        // There is no -4: -5 and -6 are counted in the two places behind -3.
        int place = why >= CANNOT_BE ? -why - 1 : -why - 2;
        if (place >= 0 && place < refusals.length) {
            refusals[place]++;
        }
        return why;
    }

    private void write(int number) {
        for (int shift = 24; shift >= 0 && tapeLength < tape.length; shift -= 8) {
            tape[tapeLength] = number >>> shift & 255;
            tapeLength++;
        }
    }

    private boolean readStay(int at) {
        if (at + STAY_BYTES > tapeLength) {
            return false;
        }
        int body = tape[at];
        int from = tape[at + 1];
        int to = tape[at + 2];
        int cell = tape[at + 3] == OUT_BYTE ? NONE : tape[at + 3];
        if (!house.bodies.has(body) || !isStay(from, to, cell) || house.isWalled(cell)) {
            return false;
        }
        house.put(body, from, to, cell);
        return true;
    }

    private boolean canWalk(int body, int cell, int hour) {
        return house.bodies.has(body) && isCell(cell) && !isOn(house.walls, cell) && isHour(hour);
    }

    private static boolean isCell(int cell) {
        return cell >= 0 && cell < CELLS;
    }

    private static boolean isCellOrNone(int cell) {
        return cell >= NONE && cell < CELLS;
    }

    private static boolean isHour(int hour) {
        return hour >= 0 && hour < HOURS;
    }

    private static boolean isSort(int sort) {
        return sort >= 0 && sort < SORTS;
    }

    private static boolean isDust(int dust) {
        return dust >= 0 && dust <= MOST_DUST;
    }

    private static boolean isFlag(int is) {
        return is == 0 || is == 1;
    }

    private static boolean isImage(int k) {
        return k >= 0 && k < IMAGES;
    }

    private static boolean isLook(int cell, int way, int hour) {
        return isCell(cell) && way >= 0 && way < WAYS && isHour(hour);
    }

    private static boolean isStay(int from, int to, int cell) {
        return isHour(from) && isHour(to) && to >= from && isCellOrNone(cell);
    }

    private static boolean isTurn(int what, int value) {
        switch (what + SORT) {
            case SORT:
                return isSort(value);
            case LATE:
                return isHour(value);
            case DUST:
                return isDust(value);
            case COVERED:
                return value >= 0 && value < 1 << HOURS;
            default:
                return false;
        }
    }

    private static boolean isOn(long board, int cell) {
        return (board >>> cell & 1L) != 0;
    }

    /** The cell next to a cell that way, itself for STAYING, NONE out of the house. */
    private static int beside(int cell, int way) {
        switch (way) {
            case 0:
                return cell >= 8 ? cell - 8 : NONE;
            case 1:
                return (cell & 7) < 7 ? cell + 1 : NONE;
            case 2:
                return cell < CELLS - 8 ? cell + 8 : NONE;
            case 3:
                return (cell & 7) > 0 ? cell - 1 : NONE;
            default:
                return cell;
        }
    }

    /** Rows of numbers, all as wide, at most so many. */
    private static final class Table {
        private final int most;
        private final int width;
        private final int[] numbers;
        int rows = 0;

        Table(int most, int width) {
            this.most = most;
            this.width = width;
            this.numbers = new int[most * width];
        }

        boolean has(int row) {
            return row >= 0 && row < rows;
        }

        boolean isFull() {
            return rows >= most;
        }

        int get(int row, int column) {
            if (row < 0 || row >= rows || column < 0 || column >= width) {
                return NONE;
            }
            return numbers[row * width + column];
        }

        void set(int row, int column, int value) {
            if (has(row) && column >= 0 && column < width) {
                numbers[row * width + column] = value;
            }
        }

        void setLook(int row, int cell, int way, int hour) {
            set(row, LOOK_CELL, cell);
            set(row, LOOK_WAY, way);
            set(row, LOOK_HOUR, hour);
        }

        int open(int filling) {
            if (isFull()) {
                return NONE;
            }
            int row = rows;
            rows++;
            for (int column = 0; column < width; column++) {
                set(row, column, filling);
            }
            return row;
        }

        void remove(int row) {
            if (!has(row)) {
                return;
            }
            int behind = (row + 1) * width;
            System.arraycopy(numbers, behind, numbers, row * width, rows * width - behind);
            rows--;
        }

        int find(int column, int value) {
            for (int row = 0; row < rows; row++) {
                if (get(row, column) == value) {
                    return row;
                }
            }
            return NONE;
        }

        void copyFrom(Table other) {
            if (other.numbers.length == numbers.length) {
                System.arraycopy(other.numbers, 0, numbers, 0, numbers.length);
                rows = other.rows;
            }
        }
    }

    /** All that an image keeps. */
    private static final class House {
        long walls = 0;
        int least = LEAST_AT_FIRST;
        int start = NONE;
        int forced = NONE;
        int lawCount = 0;
        final Law[] laws = new Law[MOST_LAWS];
        final Table glasses = new Table(MOST_GLASSES, GLASS_WIDTH);
        final Table bodies = new Table(MOST_BODIES, HOURS);
        final Table sightings = new Table(MOST_SIGHTINGS, SIGHT_WIDTH);
        /** As wide as glasses are, so that a look meets both alike. */
        final Table spots = new Table(MOST_SPOTS, GLASS_WIDTH);
        final Table wishes = new Table(MOST_WISHES, WISH_WIDTH);
        /** Where glasses are, and where bodies are in each hour: most cells of a look hold neither. */
        long glassBoard = 0;
        final long[] bodyBoards = new long[HOURS];

        boolean isWalled(int cell) {
            return cell != NONE && isOn(walls, cell);
        }

        boolean isTaken(int cell) {
            for (int hour = 0; hour < HOURS; hour++) {
                if (isOn(bodyBoards[hour], cell)) {
                    return true;
                }
            }
            return isOn(glassBoard, cell) || spots.find(CELL, cell) != NONE || start == cell;
        }

        boolean canHang(int cell) {
            return !isOn(walls | glassBoard, cell) && spots.find(CELL, cell) == NONE;
        }

        void put(int body, int from, int to, int cell) {
            for (int hour = from; hour <= to; hour++) {
                bodies.set(body, hour, cell);
                long board = 0;
                for (int other = 0; other < bodies.rows; other++) {
                    int at = bodies.get(other, hour);
                    board |= at == NONE ? 0 : 1L << at;
                }
                bodyBoards[hour] = board;
            }
        }

        int countSeen() {
            int seen = 0;
            for (int i = 0; i < sightings.rows; i++) {
                seen += sightings.get(i, SIGHT_SEEN);
            }
            return seen;
        }

        Law lawInForce() {
            return forced >= 0 && forced < lawCount ? laws[forced] : null;
        }

        void copyFrom(House other) {
            walls = other.walls;
            least = other.least;
            start = other.start;
            forced = other.forced;
            lawCount = other.lawCount;
            for (int i = 0; i < MOST_LAWS; i++) {
                laws[i] = other.laws[i];
            }
            glasses.copyFrom(other.glasses);
            bodies.copyFrom(other.bodies);
            sightings.copyFrom(other.sightings);
            spots.copyFrom(other.spots);
            wishes.copyFrom(other.wishes);
            glassBoard = other.glassBoard;
            System.arraycopy(other.bodyBoards, 0, bodyBoards, 0, HOURS);
        }
    }

    /** A law that was read; nothing in it changes, so that images can share it. */
    private static final class Law {
        final int clauses;
        final int[] heads;
        /** Where each clause's code starts, and behind the last one where it ends. */
        final int[] starts;
        final int[] code;

        Law(int clauses, int[] heads, int[] starts, int[] code) {
            this.clauses = clauses;
            this.heads = heads;
            this.starts = starts;
            this.code = code;
        }
    }

    /** A text cut into tokens, the end being the last of them. */
    private static final class Tokens {
        final int[] kinds = new int[MOST_BYTES + 1];
        final int[] numbers = new int[MOST_BYTES + 1];
        final int[] places = new int[MOST_BYTES + 1];

        void cut(int[] text, int length) {
            int tokens = 0;
            int at = 0;
            for (int i = 0; i < length && at < length; i++) {
                int next = endOf(text, at, length);
                if (text[at] != ' ') {
                    places[tokens] = at;
                    numbers[tokens] = isDigit(text[at]) ? numberIn(text, at, next) : 0;
                    kinds[tokens] = kindOf(text, at, next);
                    tokens++;
                }
                at = next;
            }
            places[tokens] = length;
            kinds[tokens] = TOKEN_END;
        }

        int kindAt(int token) {
            return token >= 0 && token < kinds.length ? kinds[token] : TOKEN_END;
        }

        private static boolean isLetter(int sign) {
            return sign >= 'a' && sign <= 'z';
        }

        private static boolean isDigit(int sign) {
            return sign >= '0' && sign <= '9';
        }

        private static int endOf(int[] text, int at, int length) {
            int next = at + 1;
            if (isLetter(text[at])) {
                while (next < length && isLetter(text[next])) {
                    next++;
                }
            } else if (isDigit(text[at])) {
                while (next < length && isDigit(text[next])) {
                    next++;
                }
            }
            return next;
        }

        private static int kindOf(int[] text, int at, int next) {
            if (isDigit(text[at])) {
                return numberIn(text, at, next) <= MOST_NUMBER ? TOKEN_NUMBER : TOKEN_UNKNOWN;
            }
            if (isLetter(text[at])) {
                int word = wordIn(text, at, next);
                return word == NONE ? TOKEN_UNKNOWN : TOKEN_WORD + word;
            }
            return text[at];
        }

        private static int numberIn(int[] text, int from, int to) {
            int number = 0;
            for (int at = from; at < to && number <= MOST_NUMBER; at++) {
                number = number * 10 + text[at] - '0';
            }
            return number;
        }

        private static int wordIn(int[] text, int from, int to) {
            int word = 0;
            int at = from;
            boolean same = true;
            for (int i = 0; i < WORDS.length(); i++) {
                char sign = WORDS.charAt(i);
                if (sign != ' ') {
                    same = same && at < to && text[at] == sign;
                    at++;
                } else if (same && at == to) {
                    return word;
                } else {
                    word++;
                    at = from;
                    same = true;
                }
            }
            return NONE;
        }
    }

    /**
     * Reads a text by the grammar; each method stops at the token that can't go on. What binds more
     * tightly ("and", "*", "/") is written down at once, what binds less ("or", "+", "-") waits.
     */
    private static final class LawReader {
        private final Tokens tokens = new Tokens();
        private final int[] heads = new int[MOST_CLAUSES];
        private final int[] starts = new int[MOST_CLAUSES + 1];
        /** No token makes more than one step, so there are never more of them. */
        private final int[] code = new int[MOST_BYTES];
        private int length;
        private int parts;
        private int at;
        int faultPlace = NONE;

        Law read(int[] text, int bytes) {
            tokens.cut(text, bytes);
            length = 0;
            parts = 0;
            at = 0;
            for (int clause = 0; clause < MOST_CLAUSES && readClause(clause); clause++) {
                if (isNext(TOKEN_END)) {
                    faultPlace = NONE;
                    starts[clause + 1] = length;
                    return new Law(clause + 1, Arrays.copyOf(heads, clause + 1),
                        Arrays.copyOf(starts, clause + 2), Arrays.copyOf(code, length));
                }
                if (!passed(';')) {
                    break;
                }
            }
            faultPlace = at < tokens.places.length ? tokens.places[at] : bytes;
            return null;
        }

        private boolean readClause(int clause) {
            int head = tokens.kindAt(at) - TOKEN_WORD;
            if (head < 0 || head >= HEADS) {
                return false;
            }
            at++;
            heads[clause] = head;
            starts[clause] = length;
            if ((head == HEAD_LATE || head == HEAD_DUST) && !readSum(0)) {
                return false;
            }
            if (!passed(TOKEN_IF)) {
                return true;
            }
            if (!readTest(0)) {
                return false;
            }
            emit(OP_IF, 0);
            return true;
        }

        private boolean readTest(int depth) {
            if (!readPlain(depth)) {
                return false;
            }
            int waiting = NONE;
            for (int i = 0; i < MOST_BYTES && (isNext(TOKEN_OR) || isNext(TOKEN_AND)); i++) {
                boolean isOr = isNext(TOKEN_OR);
                at++;
                if (isOr) {
                    jumpHere(waiting);
                }
                int jump = emit(isOr ? OP_OR : OP_AND, 0);
                if (!readPlain(depth)) {
                    return false;
                }
                if (isOr) {
                    waiting = jump;
                } else {
                    jumpHere(jump);
                }
            }
            jumpHere(waiting);
            return true;
        }

        private boolean readPlain(int depth) {
            boolean turned = false;
            for (int i = 0; i < MOST_BYTES && passed(TOKEN_NOT); i++) {
                turned = !turned;
            }
            if (isNext('(')) {
                if (depth >= MOST_DEPTH || !passed('(') || !readTest(depth + 1) || !passed(')')) {
                    return false;
                }
            } else {
                if (!readSum(depth)) {
                    return false;
                }
                int op = isNext('<') ? OP_LESS : isNext('>') ? OP_MORE : isNext('=') ? OP_SAME : NONE;
                if (op == NONE) {
                    return false;
                }
                at++;
                if (!readSum(depth)) {
                    return false;
                }
                emit(op, 0);
            }
            if (turned) {
                emit(OP_NOT, 0);
            }
            return true;
        }

        private boolean readSum(int depth) {
            if (!readPart(depth)) {
                return false;
            }
            int waiting = NONE;
            for (int i = 0; i < MOST_BYTES; i++) {
                int op = isNext('+') ? OP_ADD : isNext('-') ? OP_SUBTRACT
                    : isNext('*') ? OP_TIMES : isNext('/') ? OP_DIVIDE : NONE;
                boolean canWait = op == OP_ADD || op == OP_SUBTRACT;
                if (waiting != NONE && (canWait || op == NONE)) {
                    emit(waiting, 0);
                }
                if (op == NONE) {
                    return true;
                }
                at++;
                if (!readPart(depth)) {
                    return false;
                }
                if (canWait) {
                    waiting = op;
                } else {
                    emit(op, 0);
                }
            }
            return false;
        }

        private boolean readPart(int depth) {
            if (isNext('[')) {
                return depth < MOST_DEPTH && passed('[') && readSum(depth + 1) && passed(']');
            }
            int asked = tokens.kindAt(at) - TOKEN_WORD - FIRST_ASKED;
            boolean isWord = asked >= 0 && asked < ASKED;
            if (!isWord && !isNext(TOKEN_NUMBER) || parts >= MOST_PARTS) {
                return false;
            }
            emit(isWord ? OP_WORD : OP_NUMBER, isWord ? asked : tokens.numbers[at]);
            parts++;
            at++;
            return true;
        }

        private boolean isNext(int kind) {
            return at < tokens.kinds.length && tokens.kinds[at] == kind;
        }

        private boolean passed(int kind) {
            boolean is = at < tokens.kinds.length && tokens.kinds[at] == kind;
            at += is ? 1 : 0;
            return is;
        }

        private void jumpHere(int jump) {
            if (jump >= 0 && jump < code.length) {
                code[jump] |= length;
            }
        }

        private int emit(int op, int argument) {
            if (length >= code.length) {
                return NONE;
            }
            code[length] = op << OP_SHIFT | argument;
            length++;
            return length - 1;
        }
    }

    /** Says what a law tells of what it is asked. */
    private static final class Judge {
        final int[] asked = new int[ASKED];
        private final long[] stack = new long[MOST_PARTS];

        /** Whether a clause with that head holds; the last one that does leaves its sum below. */
        boolean isHeld(Law law, int head) {
            if (law == null) {
                return false;
            }
            for (int clause = law.clauses - 1; clause >= 0; clause--) {
                if (law.heads[clause] == head && holds(law, clause)) {
                    return true;
                }
            }
            return false;
        }

        /** What the clause that was held told, or the nearest that can be. */
        int toldUpTo(int most) {
            return (int) Math.max(0L, Math.min(most, stack[0]));
        }

        private boolean holds(Law law, int clause) {
            int height = 0;
            int end = law.starts[clause + 1];
            for (int at = law.starts[clause]; at < end; at++) {
                int op = law.code[at] >> OP_SHIFT;
                int argument = law.code[at] & OP_MASK;
                if (op == OP_NUMBER || op == OP_WORD) {
                    if (height >= stack.length) {
                        return false;
                    }
                    stack[height] = op == OP_NUMBER ? argument : asked[argument];
                    height++;
                } else if (op <= OP_SAME) {
                    height--;
                    if (!combine(op, height - 1)) {
                        return false;
                    }
                } else if (height < 1) {
                    return false;
                } else if (op == OP_NOT) {
                    stack[height - 1] = 1 - stack[height - 1];
                } else if (op == OP_IF) {
                    height--;
                    if (stack[height] == 0) {
                        return false;
                    }
                } else if ((stack[height - 1] != 0) == (op == OP_OR)) {
                    at = Math.max(at, argument - 1);
                } else {
                    height--;
                }
            }
            return true;
        }

        /** Whether what comes of the two numbers from there on is not broken. */
        private boolean combine(int op, int place) {
            if (place < 0 || place + 1 >= stack.length || op == OP_DIVIDE && stack[place + 1] == 0) {
                return false;
            }
            long a = stack[place];
            long b = stack[place + 1];
            long made;
            switch (op) {
                case OP_ADD:
                    made = a + b;
                    break;
                case OP_SUBTRACT:
                    made = a - b;
                    break;
                case OP_TIMES:
                    made = a * b;
                    break;
                case OP_DIVIDE:
                    made = a / b;
                    break;
                default:
                    made = (op == OP_LESS ? a < b : op == OP_MORE ? a > b : a == b) ? 1 : 0;
                    break;
            }
            stack[place] = made;
            return made >= -MOST_SUM && made <= MOST_SUM;
        }
    }

    /** One look, and how it went. */
    private static final class Look {
        private final House house;
        private final Judge judge = new Judge();
        final int[] points = new int[MOST_STEPS];
        int length;
        int seen;
        int lastHour;
        int bright;
        int went;
        /** Glasses that looks came to, as bits, since this was set to 0. */
        int met;
        private int cell;
        private int way;
        private int hour;
        private boolean isOver;

        Look(House house) {
            this.house = house;
        }

        void run(int fromCell, int fromWay, int fromHour, int hung) {
            cell = fromCell;
            way = fromWay;
            hour = fromHour;
            length = 0;
            seen = NONE;
            lastHour = NONE;
            bright = MOST_BRIGHT;
            went = 0;
            // What a table kept is tested again here: all rows by hour and cell rest on it.
            isOver = !isLook(fromCell, fromWay, fromHour);
            long glassBoard = house.glassBoard | hungBoard(hung);
            for (int step = 0; step < MOST_STEPS && !isOver; step++) {
                int next = beside(cell, way);
                if (next == NONE || isOn(house.walls, next)) {
                    return;
                }
                cell = next;
                lastHour = hour;
                points[step] = hour * CELLS + cell;
                length = step + 1;
                if (isOn(house.bodyBoards[hour] | glassBoard, cell)) {
                    meetBodies();
                    if (!isOver && isOn(glassBoard, cell)) {
                        meetGlass();
                    }
                }
            }
        }

        int bodiesFrom(int from, int fromHour) {
            int bits = 0;
            for (int direction = 0; direction < WAYS; direction++) {
                run(from, direction, fromHour, 0);
                bits |= seen == NONE ? 0 : 1 << seen;
            }
            return bits;
        }

        boolean findsBody(int body, int from, int fromHour) {
            met = 0;
            for (int direction = 0; direction < WAYS; direction++) {
                run(from, direction, fromHour, 0);
                if (seen == body) {
                    return true;
                }
            }
            return false;
        }

        long cellsFrom(int from, int fromHour) {
            long board = 0;
            for (int direction = 0; direction < WAYS; direction++) {
                run(from, direction, fromHour, 0);
                for (int i = 0; i < length; i++) {
                    board |= 1L << points[i] % CELLS;
                }
            }
            return board;
        }

        int lateness(int from, int fromHour, int body) {
            int least = NONE;
            for (int direction = 0; direction < WAYS; direction++) {
                run(from, direction, fromHour, 0);
                int between = fromHour - lastHour;
                if (seen == body && (least == NONE || between < least)) {
                    least = between;
                }
            }
            return least;
        }

        boolean hasPoint(int point) {
            for (int i = 0; i < length; i++) {
                if (points[i] == point) {
                    return true;
                }
            }
            return false;
        }

        private long hungBoard(int hung) {
            long board = 0;
            for (int spot = 0; hung >> spot != 0 && spot < house.spots.rows; spot++) {
                board |= (hung >> spot & 1) == 0 ? 0 : 1L << house.spots.get(spot, CELL);
            }
            return board;
        }

        private void ask(int glass, int body) {
            int[] asked = judge.asked;
            asked[0] = glass;
            asked[1] = cell & 7;
            asked[2] = cell >> 3;
            asked[3] = hour;
            asked[4] = way;
            asked[5] = body;
            asked[6] = length;
            asked[7] = bright / 1000;
        }

        private void meetBodies() {
            Law law = house.lawInForce();
            for (int body = 0; body < house.bodies.rows; body++) {
                if (house.bodies.get(body, hour) == cell) {
                    ask(NONE, body);
                    if (!judge.isHeld(law, HEAD_CLEAR)) {
                        seen = body;
                        isOver = true;
                        return;
                    }
                }
            }
        }

        private void meetGlass() {
            isOver = true;
            int glass = house.glasses.find(CELL, cell);
            Table table = glass == NONE ? house.spots : house.glasses;
            int row = glass == NONE ? house.spots.find(CELL, cell) : glass;
            int number = glass == NONE ? MOST_GLASSES + row : glass;
            int sort = table.get(row, SORT);
            met |= 1 << number;
            Law law = house.lawInForce();
            ask(number, NONE);
            if ((table.get(row, COVERED) >> hour & 1) != 0 || judge.isHeld(law, HEAD_COVERS)
                    || sort >= FIRST_FLAT && sort - FIRST_FLAT != (way ^ 2)) {
                return;
            }
            int late = judge.isHeld(law, HEAD_LATE) ? judge.toldUpTo(HOURS - 1) : table.get(row, LATE);
            if (late > hour) {
                return;
            }
            int dust = judge.isHeld(law, HEAD_DUST) ? judge.toldUpTo(MOST_DUST) : table.get(row, DUST);
            bright = bright * (MOST_DUST - dust) / MOST_DUST;
            if (bright < house.least) {
                return;
            }
            hour -= late;
            way = sort == 0 ? way ^ 1 : sort == 1 ? 3 - way : way ^ 2;
            went |= 1 << number;
            isOver = false;
        }
    }

    /** What is seen by any body at any time. */
    private static final class Watch {
        private final House house;
        private final Look eye;
        final long[] boards = new long[HOURS];

        Watch(House house, Look eye) {
            this.house = house;
            this.eye = eye;
        }

        void lookAround() {
            Arrays.fill(boards, 0);
            for (int body = 0; body < house.bodies.rows; body++) {
                for (int hour = 0; hour < HOURS; hour++) {
                    int cell = house.bodies.get(body, hour);
                    for (int way = 0; way < WAYS && cell != NONE; way++) {
                        eye.run(cell, way, hour, 0);
                        addPoints();
                    }
                }
            }
        }

        private void addPoints() {
            for (int i = 0; i < eye.length; i++) {
                boards[eye.points[i] / CELLS] |= 1L << eye.points[i] % CELLS;
            }
        }
    }

    /**
     * The thief's rows. By which of the sightings that saw him a row has been at one of their
     * points so far is its mask; a row fits, if its mask is full in the end.
     */
    private static final class Thief {
        private final House house;
        private final Look eye;
        /** Where he can't be in each hour. */
        final long[] barred = new long[HOURS];
        /** The mask that a cell in an hour adds. */
        private final int[] adds = new int[HOURS * CELLS];
        private int full;
        private long[] counts = new long[CELLS * MASKS];
        private long[] nextCounts = new long[CELLS * MASKS];
        /** Sets of masks with which one can come to a cell in an hour and still fit. */
        private final int[] hopes = new int[HOURS * CELLS];
        /** Sets of masks with which one comes to a cell in an hour, then goes from it. */
        private final int[] held = new int[CELLS];
        private final int[] leaving = new int[CELLS];

        Thief(House house, Look eye) {
            this.house = house;
            this.eye = eye;
        }

        int allSightings() {
            return (1 << house.sightings.rows) - 1;
        }

        void load(int sightings) {
            Arrays.fill(barred, house.walls);
            Arrays.fill(adds, 0);
            if (house.start != NONE) {
                barred[0] |= ~(1L << house.start);
            }
            int bit = 1;
            Table table = house.sightings;
            for (int i = 0; i < table.rows; i++) {
                if ((sightings >> i & 1) != 0) {
                    eye.run(table.get(i, LOOK_CELL), table.get(i, LOOK_WAY), table.get(i, LOOK_HOUR), 0);
                    if (table.get(i, SIGHT_SEEN) == 1) {
                        addPoints(bit);
                        bit <<= 1;
                    } else {
                        barPoints();
                    }
                }
            }
            full = bit - 1;
        }

        void barPoints() {
            for (int i = 0; i < eye.length; i++) {
                barred[eye.points[i] / CELLS] |= 1L << eye.points[i] % CELLS;
            }
        }

        private void addPoints(int bit) {
            for (int i = 0; i < eye.length; i++) {
                adds[eye.points[i]] |= bit;
            }
        }

        long countRows() {
            int masks = full + 1;
            Arrays.fill(counts, 0);
            for (int cell = 0; cell < CELLS; cell++) {
                counts[cell * masks + adds[cell]] = isOn(barred[0], cell) ? 0 : 1;
            }
            for (int hour = 1; hour < HOURS; hour++) {
                stepTo(hour);
            }
            long sum = 0;
            for (int cell = 0; cell < CELLS; cell++) {
                sum += counts[cell * masks + full];
            }
            return sum;
        }

        private void stepTo(int hour) {
            int masks = full + 1;
            for (int cell = 0; cell < CELLS; cell++) {
                for (int mask = 0; mask < masks; mask++) {
                    nextCounts[cell * masks + mask] = 0;
                }
                int adding = adds[hour * CELLS + cell];
                for (int way = 0; way <= STAYING && !isOn(barred[hour], cell); way++) {
                    int from = beside(cell, way);
                    for (int mask = 0; mask < masks && from != NONE; mask++) {
                        nextCounts[cell * masks + (mask | adding)] += counts[from * masks + mask];
                    }
                }
            }
            long[] spare = counts;
            counts = nextCounts;
            nextCounts = spare;
        }

        /** Fills the hopes from the last hour on: whether any row fits. */
        private boolean anyFits() {
            for (int hour = HOURS - 1; hour >= 0; hour--) {
                for (int cell = 0; cell < CELLS; cell++) {
                    int place = hour * CELLS + cell;
                    int set = isOn(barred[hour], cell) ? 0 : hopesBehind(hour, cell);
                    hopes[place] = masksBefore(set, adds[place]);
                }
            }
            for (int cell = 0; cell < CELLS; cell++) {
                if ((hopes[cell] & 1) != 0) {
                    return true;
                }
            }
            return false;
        }

        private int hopesBehind(int hour, int cell) {
            if (hour == HOURS - 1) {
                return 1 << full;
            }
            int set = 0;
            for (int way = 0; way <= STAYING; way++) {
                int next = beside(cell, way);
                set |= next == NONE ? 0 : hopes[(hour + 1) * CELLS + next];
            }
            return set;
        }

        /** The masks that are in a set once so much is added. */
        private static int masksBefore(int set, int adding) {
            int before = set;
            for (int k = 0; k < HAVING.length && adding != 0; k++) {
                if ((adding >> k & 1) != 0) {
                    before &= HAVING[k];
                    before |= before >>> (1 << k);
                }
            }
            return before;
        }

        /** What the masks of a set become once so much is added. */
        private static int masksAfter(int set, int adding) {
            int after = set;
            for (int k = 0; k < HAVING.length && adding != 0; k++) {
                if ((adding >> k & 1) != 0) {
                    after = after & HAVING[k] | (after & ~HAVING[k]) << (1 << k);
                }
            }
            return after;
        }

        /** Where he can be in an hour, as a board. */
        long cellsIn(int hour) {
            if (!anyFits()) {
                return 0;
            }
            for (int cell = 0; cell < CELLS; cell++) {
                held[cell] = isOn(barred[0], cell) ? 0 : 1;
            }
            for (int later = 1; later <= hour; later++) {
                holdIn(later);
            }
            long board = 0;
            for (int cell = 0; cell < CELLS; cell++) {
                if ((held[cell] & hopes[hour * CELLS + cell]) != 0) {
                    board |= 1L << cell;
                }
            }
            return board;
        }

        private void holdIn(int hour) {
            for (int cell = 0; cell < CELLS; cell++) {
                leaving[cell] = masksAfter(held[cell], adds[(hour - 1) * CELLS + cell]);
            }
            for (int cell = 0; cell < CELLS; cell++) {
                int set = 0;
                for (int way = 0; way <= STAYING && !isOn(barred[hour], cell); way++) {
                    int from = beside(cell, way);
                    set |= from == NONE ? 0 : leaving[from];
                }
                held[cell] = set;
            }
        }

        int firstRowAt(int hour) {
            if (!anyFits()) {
                return NONE;
            }
            int at = 0;
            while (at < CELLS - 1 && (hopes[at] & 1) == 0) {
                at++;
            }
            int mask = adds[at];
            for (int later = 1; later <= hour; later++) {
                at = lowestNext(at, later, mask);
                mask |= adds[later * CELLS + at];
            }
            return at;
        }

        private int lowestNext(int cell, int hour, int mask) {
            for (int i = 0; i < LOWEST_FIRST.length; i++) {
                int next = beside(cell, LOWEST_FIRST[i]);
                if (next != NONE && (hopes[hour * CELLS + next] >>> mask & 1) != 0) {
                    return next;
                }
            }
            return cell;
        }

        int findCore() {
            int bits = allSightings();
            load(bits);
            if (anyFits()) {
                return 0;
            }
            load(0);
            if (!anyFits()) {
                return NONE;
            }
            for (int i = 0; i < house.sightings.rows; i++) {
                load(bits & ~(1 << i));
                if (!anyFits()) {
                    bits &= ~(1 << i);
                }
            }
            return bits;
        }
    }

    /** Which spots to hang. */
    private static final class Hanger {
        private final House house;
        private final Look eye;
        int fewest;
        int choices;
        int lowest;

        Hanger(House house, Look eye) {
            this.house = house;
            this.eye = eye;
        }

        int lacking(int hung) {
            int bits = 0;
            Table table = house.wishes;
            for (int i = 0; i < table.rows; i++) {
                eye.run(table.get(i, LOOK_CELL), table.get(i, LOOK_WAY), table.get(i, LOOK_HOUR), hung);
                boolean is = eye.hasPoint(table.get(i, WISH_THEN) * CELLS + table.get(i, WISH_AT));
                if (is != (table.get(i, WISH_IS) == 1)) {
                    bits |= 1 << i;
                }
            }
            return bits;
        }

        void search() {
            fewest = NONE;
            choices = 0;
            lowest = NONE;
            for (int hung = 0; hung < 1 << house.spots.rows; hung++) {
                int size = Integer.bitCount(hung);
                boolean isFew = fewest == NONE || size <= fewest;
                if (isFew && lacking(hung) == 0) {
                    if (size != fewest) {
                        fewest = size;
                        choices = 0;
                        lowest = hung;
                    }
                    choices++;
                }
            }
        }
    }

    /** One who walks to see a body. */
    private static final class Walker {
        private final House house;
        private final Look eye;
        /** From where in each hour the body is still seen in time, as boards. */
        private final long[] goals = new long[HOURS];
        /** Which glasses the looks from a cell in an hour met, as bits. */
        private final int[] met = new int[HOURS * CELLS];

        Walker(House house, Look eye) {
            this.house = house;
            this.eye = eye;
        }

        /** The first hour, that one on, ahead of an hour, in which the body is seen. */
        int firstSight(int body, int cell, int from, int before) {
            long here = 1L << cell;
            // No look goes to a later hour: ahead of its first one a body is not seen.
            boolean isThere = isEverIn(body, from);
            for (int hour = from; hour < before; hour++) {
                isThere = isThere || house.bodies.get(body, hour) != NONE;
                long good = 0;
                for (int at = 0; at < CELLS; at++) {
                    boolean isSeen = isThere && isOn(here, at) && eye.findsBody(body, at, hour);
                    good |= isSeen ? 1L << at : 0;
                    met[hour * CELLS + at] = isThere ? eye.met : 0;
                }
                goals[hour] = good;
                if (good != 0) {
                    return hour;
                }
                here = spread(here);
            }
            return NONE;
        }

        /**
         * As firstSight, which was asked last, with a glass that was turned since, ahead of what it
         * answered: only looks that met that glass can see now what they did not.
         */
        int sightBy(int glass, int body, int cell, int from, int before) {
            long here = 1L << cell;
            for (int hour = from; hour < before; hour++) {
                for (int at = 0; at < CELLS; at++) {
                    boolean canDiffer = isOn(here, at) && (met[hour * CELLS + at] >> glass & 1) != 0;
                    if (canDiffer && eye.findsBody(body, at, hour)) {
                        return hour;
                    }
                }
                here = spread(here);
            }
            return NONE;
        }

        private boolean isEverIn(int body, int before) {
            for (int hour = 0; hour < before; hour++) {
                if (house.bodies.get(body, hour) != NONE) {
                    return true;
                }
            }
            return false;
        }

        /** Where he is in an hour of the first row to the goals of the last hour. */
        int firstRowAt(int cell, int from, int last, int hour) {
            for (int earlier = last - 1; earlier >= from; earlier--) {
                goals[earlier] = spread(goals[earlier + 1]);
            }
            int at = cell;
            for (int later = from + 1; later <= hour; later++) {
                at = lowestNext(at, goals[later]);
            }
            return at;
        }

        private static int lowestNext(int cell, long board) {
            for (int i = 0; i < LOWEST_FIRST.length; i++) {
                int next = beside(cell, LOWEST_FIRST[i]);
                if (next != NONE && isOn(board, next)) {
                    return next;
                }
            }
            return cell;
        }

        private long spread(long board) {
            long wide = board | board << 8 | board >>> 8
                | (board & ~EAST_EDGE) << 1 | (board & ~WEST_EDGE) >>> 1;
            return wide & ~house.walls;
        }
    }
}
