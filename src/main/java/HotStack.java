/**
 * A stack of hay in columns of layers, carted load by load, that heats by a law told as a text.
 * What each call answers is said in the document (DOC.md), promise by promise.
 */
public final class HotStack {
    public static final int BAD = -1, NOT = -2, FULL = -3, STATE = -5, VOID = -2000000000;

    private static final int NOTHING_THERE = -11, OTHER_KIND = -12, NO_PLACE = -13, SIZE_BELOW_0 = -14;
    private static final int COLUMNS = 6, LAYERS = 5, CELLS = 30;
    private static final int MOST_DAYS = 40, MOST_AHEAD = 20, SHELVES = 6;

    // The numbers of mend() and of(); those up to LOAD are of a CELL.
    private static final int DAMP = 0, HEAT = 1, GOOD = 2, SALT = 3, LOAD = 4;
    private static final int CHIMNEY = 5, GLOWS = 6, DAY = 7, HIGH = 8;
    private static final int[] LEAST = {0, 0, 0, 0, 0, 0, 30, 0};
    private static final int[] MOST = {9, 99, 99, 1, 9, 1, 99, 99};

    // What LED tells.
    private static final int CARTED = 0, TURNED = 1, SALTED = 2, READ = 3, DAYS = 4, HOTTEST_READ = 5;

    private final Tape tape;
    private final Law law;
    private final Hay hay;
    private final Hay image;
    private boolean hasImage;
    private final Thought thought;
    private final Rods rods;
    private final Laying laying;
    private final Game game;
    private final Books books;
    private final Changes changes;
    private final Bodies bodies;
    private final Shelf[] shelves;

    public HotStack() {
        tape = new Tape();
        law = new Law();
        hay = new Hay(law);
        image = new Hay(law);
        Hay mind = new Hay(law);
        thought = new Thought(hay, mind);
        rods = new Rods(hay);
        laying = new Laying(hay, mind);
        game = new Game(hay, law);
        books = new Books(hay, mind);
        changes = new Changes();
        bodies = new Bodies();
        shelves = new Shelf[SHELVES];
        for (int i = 0; i < SHELVES; i++) {
            shelves[i] = new Shelf();
        }
    }

    // ---- loads, cells

    public int cart(int column, int dl) {
        if (!within(column, 0, COLUMNS - 1) || !within(dl, 0, 99)) {
            return BAD;
        }
        return cartOne(column, dl / 10, dl % 10);
    }

    public int loads(int shelf, int i, int n) {
        if (!isShelf(shelf) || !within(n, 1, 20)) {
            return BAD;
        }
        int refusal = shelves[shelf].refusalOfBytes();
        if (refusal == OTHER_KIND) {
            return OTHER_KIND;
        }
        if (refusal != 0 || i < 0) {
            return 0;
        }
        return cartFrom(shelves[shelf], i, n);
    }

    public int mend(int number, int what, int v) {
        if (!isNumber(number, what) || !within(v, LEAST[what], MOST[what])) {
            return BAD;
        }
        int was = hay.numberOf(number, what);
        if (was != v) {
            hay.tell(number, what, v);
            changes.add(number, what, was, v);
        }
        return was;
    }

    public int of(int number, int what) {
        if (what == HIGH) {
            return within(number, 0, COLUMNS - 1) ? hay.high[number] : BAD;
        }
        return isNumber(number, what) ? hay.numberOf(number, what) : BAD;
    }

    public int feed(int letter) {
        return within(letter, 0, 255) ? tape.add(letter) : BAD;
    }

    public int law() {
        int fault = tape.understand();
        if (fault < 0) {
            law.become(tape);
        }
        tape.clear();
        return fault < 0 ? 1 : -100 - fault;
    }

    public int heats(int cell) {
        return hay.has(cell) ? law.gives(hay, cell) : VOID;
    }

    // ---- days in thought

    public int later(int n, int cell, int what) {
        if (!within(n, 0, MOST_DAYS) || !hay.has(cell) || !within(what, DAMP, GOOD)) {
            return BAD;
        }
        Hay then = thought.behind(n);
        return what == 0 ? then.heat[cell] : what == 1 ? then.damp[cell] : then.good[cell];
    }

    public int stack(int n, int what) {
        if (!within(n, 0, MOST_DAYS) || !within(what, 0, 3)) {
            return BAD;
        }
        Hay then = thought.behind(n);
        switch (what) {
            case 0: return then.hottestCell();
            case 1: return then.hottestHeat();
            case 2: return then.glowing();
            default: return then.goodOfAll();
        }
    }

    public int first(int cell, int heat) {
        if (cell != -1 && !hay.has(cell) || !within(heat, 0, 99)) {
            return BAD;
        }
        return thought.firstDay(cell, heat);
    }

    public int rods(int heat) {
        return within(heat, 0, 99) ? rods.fewest(heat) : BAD;
    }

    public long rodsAt(int heat) {
        if (!within(heat, 0, 99)) {
            return Long.MIN_VALUE;
        }
        return rods.fewest(heat) == NOT ? NOT : rods.places;
    }

    public int turn(int k, int n, int what) {
        if (!within(k, 0, 3) || !within(n, 0, MOST_AHEAD) || !within(what, 0, 1)) {
            return BAD;
        }
        thought.seekTurn(k, n);
        return what == 0 ? thought.best : thought.which;
    }

    public int chimney(int n, int what) {
        if (!within(n, 0, MOST_AHEAD) || !within(what, 0, 1)) {
            return BAD;
        }
        thought.seekChimney(n);
        return what == 0 ? thought.which : thought.best;
    }

    public int latest() {
        return thought.latestTurn();
    }

    // ---- laying, worth, books

    public int lay(int shelf, int n, int k) {
        if (!isShelf(shelf) || !within(n, 0, 8) || k < -1) {
            return BAD;
        }
        int refusal = shelves[shelf].refusalOfBytes();
        if (refusal != 0) {
            return refusal;
        }
        laying.seek(shelves[shelf], n);
        return k < 0 ? laying.best : laying.placeOf(k);
    }

    public int worth() {
        return hay.value();
    }

    public int sell(int n, int c, int what) {
        if (!within(n, 0, MOST_DAYS) || !within(c, 0, 99) || !within(what, 0, 1)) {
            return VOID;
        }
        thought.seekSale(n, c);
        return what == 0 ? thought.which : thought.best;
    }

    public int whose() {
        int most = 0;
        int found = NOT;
        for (int load = 0; load <= MOST[LOAD]; load++) {
            int gone = hay.goneOf(load);
            if (gone > most) {
                most = gone;
                found = load;
            }
        }
        return found;
    }

    public int judge(int shelf, int cell) {
        if (!isShelf(shelf) || !hay.has(cell)) {
            return BAD;
        }
        int refusal = shelves[shelf].refusalOfBytes();
        return refusal != 0 ? refusal : books.judged(shelves[shelf], cell);
    }

    public int book(int shelf, int cc, int what) {
        if (!isShelf(shelf) || cc < 0 || !hay.has(cc / 100) || !hay.has(cc % 100) || !within(what, 0, 2)) {
            return BAD;
        }
        int refusal = shelves[shelf].refusalOfBytes();
        if (refusal != 0) {
            return refusal;
        }
        int fitting = books.fitting(shelves[shelf], cc, what == 2 ? SALT : DAMP);
        switch (what) {
            case 0: return Integer.bitCount(fitting);
            case 1: return lowestBit(fitting);
            default: return fitting;
        }
    }

    public int byTurns(int nt, int what) {
        if (!within(nt, 10, 39) || !within(what, 0, 1)) {
            return BAD;
        }
        game.play(nt / 10, nt % 10);
        return what == 0 ? game.best : game.opening;
    }

    public int drawn(int seed, int nmw, int what) {
        int n = nmw / 10000;
        int m = nmw / 100 % 100;
        int wet = nmw % 100;
        if (!within(n, 1, 30) || !within(m, 1, 30) || !within(wet, 0, 12) || !within(what, 0, 1)) {
            return BAD;
        }
        thought.seekDrawn(seed, n, m, wet);
        return what == 0 ? thought.which : thought.best;
    }

    // ---- in deed

    public int turned(int column) {
        if (!within(column, 0, COLUMNS - 1)) {
            return BAD;
        }
        hay.turnColumn(column);
        hay.led[TURNED]++;
        return hay.high[column];
    }

    public int salt(int column) {
        if (!within(column, 0, COLUMNS - 1)) {
            return BAD;
        }
        hay.saltColumn(column);
        hay.led[SALTED]++;
        return hay.high[column];
    }

    public int read(int cell) {
        if (!hay.has(cell)) {
            return BAD;
        }
        int heat = hay.heat[cell];
        hay.led[READ]++;
        hay.led[HOTTEST_READ] = Math.max(hay.led[HOTTEST_READ], heat);
        return heat;
    }

    public int day() {
        hay.passDay();
        hay.led[DAYS]++;
        return hay.glowing();
    }

    public int led(int what) {
        return within(what, CARTED, HOTTEST_READ) ? hay.led[what] : BAD;
    }

    public int image() {
        image.takeStack(hay);
        hasImage = true;
        return hay.led[DAYS];
    }

    public int back() {
        if (!hasImage) {
            return STATE;
        }
        hay.takeStack(image);
        return hay.led[DAYS];
    }

    public int undo() {
        return changes.undoIn(hay);
    }

    public int redo() {
        return changes.redoIn(hay);
    }

    // ---- acts, shelves

    public int body(int kind) {
        return within(kind, 0, Bodies.KINDS - 1) ? bodies.add(kind) : BAD;
    }

    public int act(int body, int act, int x) {
        return bodies.perform(body, act, x);
    }

    public int trace(int i) {
        return within(i, 0, Math.min(bodies.ran, Bodies.TRACED) - 1) ? bodies.begun[i] : BAD;
    }

    public int keep(int shelf, int body) {
        if (!isShelf(shelf) || !within(body, -1, bodies.many - 1)) {
            return BAD;
        }
        if (body < 0) {
            shelves[shelf].holdNothing();
        } else {
            shelves[shelf].holdBody(body);
        }
        return 1;
    }

    public int row(int shelf, int sort, int n) {
        if (!isShelf(shelf) || !within(sort, Shelf.BYTES, Shelf.BOOLEANS) || n > Shelf.LONGEST) {
            return BAD;
        }
        if (n < 0) {
            return SIZE_BELOW_0;
        }
        shelves[shelf].holdRow(sort, n);
        return 1;
    }

    public int put(int shelf, int i, long v) {
        if (!isShelf(shelf)) {
            return BAD;
        }
        int refusal = shelves[shelf].refusalOfPlace(i);
        if (refusal == 0) {
            shelves[shelf].store(i, v);
        }
        return refusal == 0 ? 1 : refusal;
    }

    public long element(int shelf, int i) {
        if (!isShelf(shelf) || shelves[shelf].refusalOfPlace(i) != 0) {
            return Long.MIN_VALUE;
        }
        return shelves[shelf].elements[i];
    }

    public int shift(int shelf, int i, int other, int j, int n) {
        if (!isShelf(shelf) || !isShelf(other)) {
            return BAD;
        }
        Shelf from = shelves[shelf];
        Shelf to = shelves[other];
        if (from.isEmpty() || to.isEmpty()) {
            return NOTHING_THERE;
        }
        if (!from.hasRow() || !to.hasRow() || from.sort != to.sort) {
            return OTHER_KIND;
        }
        if (!from.hasPlaces(i, n) || !to.hasPlaces(j, n)) {
            return NO_PLACE;
        }
        System.arraycopy(from.elements, i, to.elements, j, n);
        return n;
    }

    public int taken(int shelf, int k) {
        if (!isShelf(shelf) || !within(k, 0, Bodies.KINDS - 1)) {
            return BAD;
        }
        if (shelves[shelf].isEmpty()) {
            return NOTHING_THERE;
        }
        int kind = bodies.kindOf(shelves[shelf].heldBody());
        return Bodies.isUnder(kind, k) ? kind : OTHER_KIND;
    }

    public int count(int what) {
        switch (what) {
            case 0: return hay.cells();
            case 1: return hay.glowing();
            case 2: return tape.length;
            case 3: return changes.done;
            case 4: return bodies.many;
            case 5: return bodies.ran;
            default: return BAD;
        }
    }

    // ---- what the calls share

    private static boolean within(int value, int least, int most) {
        return value >= least && value <= most;
    }

    private static boolean isShelf(int shelf) {
        return within(shelf, 0, SHELVES - 1);
    }

    private static int lowestBit(int bits) {
        return bits == 0 ? NOT : Integer.bitCount((bits & -bits) - 1);
    }

    /** Whether mend() and of() know this number (0 to 7) of what is told. */
    private boolean isNumber(int number, int what) {
        if (!within(what, DAMP, DAY)) {
            return false;
        }
        if (what <= LOAD) {
            return hay.has(number);
        }
        return what == CHIMNEY ? within(number, 0, COLUMNS - 1) : number == 0;
    }

    private int cartOne(int column, int damp, int load) {
        int cell = hay.pileOn(column, damp, load);
        if (cell >= 0) {
            hay.led[CARTED]++;
        }
        return cell;
    }

    private int cartFrom(Shelf shelf, int i, int n) {
        for (int came = 0; came < n; came++) {
            if (i > shelf.many - 3 * (came + 1)) {
                return came;
            }
            int place = i + 3 * came;
            long column = shelf.elements[place];
            long damp = shelf.elements[place + 1];
            long load = shelf.elements[place + 2];
            boolean fits = column >= 0 && column < COLUMNS && damp >= 0 && damp <= 9 && load >= 0 && load <= 9;
            if (!fits || cartOne((int) column, (int) damp, (int) load) < 0) {
                return came;
            }
        }
        return n;
    }

    /** The stack: its columns, the numbers of its cells, its day, and what was done to it. */
    private static final class Hay {
        final Law law;
        final int[] high = new int[COLUMNS];
        final int[] chimney = new int[COLUMNS];
        final int[] damp = new int[CELLS];
        final int[] heat = new int[CELLS];
        final int[] good = new int[CELLS];
        final int[] salt = new int[CELLS];
        final int[] load = new int[CELLS];
        final int[] led = {0, 0, 0, 0, 0, NOT};
        private final int[] gain = new int[CELLS];
        int glows = 90;
        int today;

        Hay(Law law) {
            this.law = law;
        }

        /** Becomes what an image keeps of another: neither its chimneys nor what glows. */
        void takeStack(Hay other) {
            System.arraycopy(other.high, 0, high, 0, COLUMNS);
            System.arraycopy(other.damp, 0, damp, 0, CELLS);
            System.arraycopy(other.heat, 0, heat, 0, CELLS);
            System.arraycopy(other.good, 0, good, 0, CELLS);
            System.arraycopy(other.salt, 0, salt, 0, CELLS);
            System.arraycopy(other.load, 0, load, 0, CELLS);
            System.arraycopy(other.led, 0, led, 0, led.length);
            today = other.today;
        }

        void takeAll(Hay other) {
            takeStack(other);
            System.arraycopy(other.chimney, 0, chimney, 0, COLUMNS);
            glows = other.glows;
        }

        boolean has(int cell) {
            return cell >= 0 && cell < CELLS && cell % LAYERS < high[cell / LAYERS];
        }

        int cells() {
            int many = 0;
            for (int column = 0; column < COLUMNS; column++) {
                many += high[column];
            }
            return many;
        }

        int numberOf(int number, int what) {
            switch (what) {
                case DAMP: return damp[number];
                case HEAT: return heat[number];
                case GOOD: return good[number];
                case SALT: return salt[number];
                case LOAD: return load[number];
                case CHIMNEY: return chimney[number];
                case GLOWS: return glows;
                default: return today;
            }
        }

        void tell(int number, int what, int v) {
            switch (what) {
                case DAMP: damp[number] = v; break;
                case HEAT: heat[number] = v; break;
                case GOOD: good[number] = v; break;
                case SALT: salt[number] = v; break;
                case LOAD: load[number] = v; break;
                case CHIMNEY: chimney[number] = v; break;
                case GLOWS: glows = v; break;
                default: today = v; break;
            }
        }

        /** A load comes onto a column: its cell, or FULL. */
        int pileOn(int column, int itsDamp, int itsLoad) {
            if (high[column] >= LAYERS) {
                return FULL;
            }
            int cell = column * LAYERS + high[column];
            damp[cell] = itsDamp;
            heat[cell] = 20;
            good[cell] = 99;
            salt[cell] = 0;
            load[cell] = itsLoad;
            high[column]++;
            return cell;
        }

        void turnColumn(int column) {
            for (int layer = 0; layer < high[column]; layer++) {
                int cell = column * LAYERS + layer;
                heat[cell] = 20;
                damp[cell] = Math.max(0, damp[cell] - 1);
            }
        }

        void saltColumn(int column) {
            for (int layer = 0; layer < high[column]; layer++) {
                salt[column * LAYERS + layer] = 1;
            }
        }

        void wetColumn(int column) {
            if (high[column] > 0) {
                int top = column * LAYERS + high[column] - 1;
                damp[top] = Math.min(9, damp[top] + 2);
            }
        }

        private boolean isBeyond(int column, int layer) {
            return column < 0 || column >= COLUMNS || layer >= high[column];
        }

        int airOf(int cell) {
            int column = cell / LAYERS;
            int layer = cell % LAYERS;
            int air = 2 * chimney[column];
            if (isBeyond(column, layer + 1)) {
                air++;
            }
            if (isBeyond(column - 1, layer)) {
                air++;
            }
            return isBeyond(column + 1, layer) ? air + 1 : air;
        }

        int meanBeside(int cell) {
            int column = cell / LAYERS;
            int layer = cell % LAYERS;
            int sum = 0;
            int many = 0;
            if (layer > 0) {
                sum += heat[cell - 1];
                many++;
            }
            if (!isBeyond(column, layer + 1)) {
                sum += heat[cell + 1];
                many++;
            }
            if (!isBeyond(column - 1, layer)) {
                sum += heat[cell - LAYERS];
                many++;
            }
            if (!isBeyond(column + 1, layer)) {
                sum += heat[cell + LAYERS];
                many++;
            }
            return many == 0 ? 20 : sum / many;
        }

        /** A cell and those beside it, as bits. */
        int around(int cell) {
            int column = cell / LAYERS;
            int layer = cell % LAYERS;
            int bits = 1 << cell;
            if (layer > 0) {
                bits |= 1 << cell - 1;
            }
            if (!isBeyond(column, layer + 1)) {
                bits |= 1 << cell + 1;
            }
            if (!isBeyond(column - 1, layer)) {
                bits |= 1 << cell - LAYERS;
            }
            return isBeyond(column + 1, layer) ? bits : bits | 1 << cell + LAYERS;
        }

        void passDay() {
            for (int cell = 0; cell < CELLS; cell++) {
                if (has(cell)) {
                    gain[cell] = law.gives(this, cell);
                }
            }
            for (int cell = 0; cell < CELLS; cell++) {
                if (has(cell)) {
                    warm(cell, gain[cell]);
                }
            }
            today = Math.min(MOST[DAY], today + 1);
        }

        private void warm(int cell, int by) {
            int now = Math.max(0, Math.min(MOST[HEAT], heat[cell] + by));
            heat[cell] = now;
            if (now >= 40) {
                good[cell] = Math.max(0, good[cell] - now / 20);
            }
            if (now >= 50) {
                damp[cell] = Math.max(0, damp[cell] - 1);
            }
        }

        int hottestCell() {
            int found = NOT;
            for (int cell = 0; cell < CELLS; cell++) {
                if (has(cell) && (found == NOT || heat[cell] > heat[found])) {
                    found = cell;
                }
            }
            return found;
        }

        int hottestHeat() {
            int cell = hottestCell();
            return cell < 0 ? NOT : heat[cell];
        }

        int hottestBehind(int days) {
            for (int i = 0; i < days; i++) {
                passDay();
            }
            return hottestHeat();
        }

        int glowing() {
            int many = 0;
            for (int cell = 0; cell < CELLS; cell++) {
                if (has(cell) && heat[cell] >= glows) {
                    many++;
                }
            }
            return many;
        }

        int goodOfAll() {
            int sum = 0;
            for (int cell = 0; cell < CELLS; cell++) {
                if (has(cell)) {
                    sum += good[cell];
                }
            }
            return sum;
        }

        int value() {
            int sum = 0;
            for (int cell = 0; cell < CELLS; cell++) {
                if (has(cell) && heat[cell] < glows) {
                    sum += good[cell] / 9;
                }
            }
            return sum;
        }

        int goneOf(int whichLoad) {
            int gone = 0;
            for (int cell = 0; cell < CELLS; cell++) {
                if (has(cell) && load[cell] == whichLoad) {
                    gone += MOST[GOOD] - good[cell];
                }
            }
            return gone;
        }
    }

    /** The tape, and how its bytes are understood as a text: in steps for a pile of ints, line by line. */
    private static final class Tape {
        static final int LONGEST = 120;
        static final int NUMBER = '#', NAME = '@', MINUS = '~';
        static final int MOST_OPEN = 6;
        private static final int COMPARISONS = 2, UNITS = 5;

        private final int[] letters = new int[LONGEST];
        int length;
        final int[] steps = new int[LONGEST];
        final int[] arguments = new int[LONGEST];
        int used;
        final int[] guardEnds = new int[LONGEST];
        final int[] lineEnds = new int[LONGEST];
        int lines;
        private int at;
        private int fault;

        int add(int letter) {
            if (length >= LONGEST) {
                return FULL;
            }
            letters[length] = letter;
            length++;
            return length;
        }

        void clear() {
            length = 0;
        }

        /** Reads the whole tape: -1, or the place of its fault. */
        int understand() {
            used = 0;
            lines = 0;
            at = 0;
            fault = -1;
            boolean more = true;
            for (int i = 0; i <= LONGEST && more; i++) {
                readLine();
                more = next() == ';';
                if (more) {
                    at++;
                }
            }
            if (at < length) {
                failHere();
            }
            return fault;
        }

        /** The byte to come; -1 at the end, and when a fault was found, so that nothing goes on. */
        private int next() {
            return fault < 0 && at < length ? letters[at] : -1;
        }

        private void failHere() {
            if (fault < 0) {
                fault = at;
            }
        }

        private void emit(int step, int argument) {
            if (used < LONGEST) {
                steps[used] = step;
                arguments[used] = argument;
                used++;
            }
        }

        private void readLine() {
            int guardEnd = used;
            readLevel(0, 0);
            if (next() == '?') {
                at++;
                guardEnd = used;
                readLevel(0, 0);
            }
            if (lines < LONGEST) {
                guardEnds[lines] = guardEnd;
                lineEnds[lines] = used;
                lines++;
            }
        }

        /** Reads what the signs of a level join: those of | first, of * / % last; a comparison joins but once. */
        private void readLevel(int level, int open) {
            if (level >= UNITS) {
                readUnit(open);
                return;
            }
            readLevel(level + 1, open);
            int most = level == COMPARISONS ? 1 : LONGEST;
            for (int i = 0; i < most && levelOf(next()) == level; i++) {
                int sign = next();
                at++;
                readLevel(level + 1, open);
                emit(sign, 0);
            }
        }

        private static int levelOf(int sign) {
            switch (sign) {
                case '|': return 0;
                case '&': return 1;
                case '<': case '=': case '>': return COMPARISONS;
                case '+': case '-': return 3;
                case '*': case '/': case '%': return 4;
                default: return -1;
            }
        }

        private void readUnit(int open) {
            int letter = next();
            int name = nameOf(letter);
            if (letter >= '0' && letter <= '9') {
                readNumber();
            } else if (name >= 0) {
                at++;
                emit(NAME, name);
            } else if ((letter == '(' || letter == '!' || letter == '-') && open < MOST_OPEN) {
                at++;
                readOpened(letter, open + 1);
            } else {
                failHere();
            }
        }

        private void readOpened(int opener, int open) {
            if (opener == '(') {
                readLevel(0, open);
                if (next() == ')') {
                    at++;
                } else {
                    failHere();
                }
            } else {
                readUnit(open);
                emit(opener == '!' ? '!' : MINUS, 0);
            }
        }

        private void readNumber() {
            int number = 0;
            for (int digits = 0; digits < 4 && next() >= '0' && next() <= '9'; digits++) {
                number = 10 * number + next() - '0';
                at++;
            }
            emit(NUMBER, number);
        }

        private static int nameOf(int letter) {
            switch (letter) {
                case 'd': return Law.D;
                case 'h': return Law.H;
                case 'a': return Law.A;
                case 's': return Law.S;
                case 'n': return Law.N;
                case 'l': return Law.L;
                default: return -1;
            }
        }
    }

    /** By how much a cell heats in a day. */
    private static final class Law {
        static final int D = 0, H = 1, A = 2, S = 3, N = 4, L = 5;
        private static final int MOST_GAIN = 20;
        private static final int PILE = 64, NAMES = 8, KNOWN = 2048;

        private int lines;
        private final int[] steps = new int[Tape.LONGEST];
        private final int[] arguments = new int[Tape.LONGEST];
        private final int[] guardEnds = new int[Tape.LONGEST];
        private final int[] lineEnds = new int[Tape.LONGEST];
        private final int[] named = new int[NAMES];
        private final int[] pile = new int[PILE];
        // The searches ask the same again and again: each slot holds a question and its answer, or 0.
        private final int[] known = new int[KNOWN];

        void become(Tape tape) {
            lines = tape.lines;
            System.arraycopy(tape.steps, 0, steps, 0, Tape.LONGEST);
            System.arraycopy(tape.arguments, 0, arguments, 0, Tape.LONGEST);
            System.arraycopy(tape.guardEnds, 0, guardEnds, 0, Tape.LONGEST);
            System.arraycopy(tape.lineEnds, 0, lineEnds, 0, Tape.LONGEST);
            for (int i = 0; i < KNOWN; i++) {
                known[i] = 0;
            }
        }

        int gives(Hay hay, int cell) {
            int damp = hay.damp[cell];
            int heat = hay.heat[cell];
            int salt = hay.salt[cell];
            int air = hay.airOf(cell);
            int near = hay.meanBeside(cell);
            int layer = cell % LAYERS;
            if (lines == 0) {
                return held(2 * damp - air - 4 * salt + (near - heat) / 4);
            }
            int question = 1 + ((((damp * 100 + heat) * 100 + near) * 6 + air) * 2 + salt) * LAYERS + layer;
            int slot = (question * 0x9E3779B1 >>> 21) % KNOWN;
            if (known[slot] >> 6 != question) {
                named[D] = damp;
                named[H] = heat;
                named[A] = air;
                named[S] = salt;
                named[N] = near;
                named[L] = layer;
                known[slot] = question << 6 | held(worked()) + MOST_GAIN;
            }
            return (known[slot] & 63) - MOST_GAIN;
        }

        private static int held(int gain) {
            return Math.max(-MOST_GAIN, Math.min(MOST_GAIN, gain));
        }

        /** What the first line gives that counts. */
        private int worked() {
            int from = 0;
            for (int line = 0; line < lines; line++) {
                int guardEnd = guardEnds[line];
                if (guardEnd == from || run(from, guardEnd) != 0) {
                    return run(guardEnd, lineEnds[line]);
                }
                from = lineEnds[line];
            }
            return 0;
        }

        /** Runs steps on the pile; the masks hold its places within it, whatever the steps. */
        private int run(int from, int to) {
            int top = -1;
            for (int i = from; i < to && i < Tape.LONGEST; i++) {
                int step = steps[i];
                int right = pile[top & PILE - 1];
                if (step == Tape.NUMBER || step == Tape.NAME) {
                    top++;
                    pile[top & PILE - 1] = step == Tape.NUMBER ? arguments[i] : named[arguments[i] & NAMES - 1];
                    continue;
                }
                if (step == Tape.MINUS || step == '!') {
                    pile[top & PILE - 1] = step == Tape.MINUS ? -right : right == 0 ? 1 : 0;
                    continue;
                }
                top--;
                int left = pile[top & PILE - 1];
                int result = 0;
                switch (step) {
                    case '|': result = left != 0 || right != 0 ? 1 : 0; break;
                    case '&': result = left != 0 && right != 0 ? 1 : 0; break;
                    case '<': result = left < right ? 1 : 0; break;
                    case '=': result = left == right ? 1 : 0; break;
                    case '>': result = left > right ? 1 : 0; break;
                    case '+': result = left + right; break;
                    case '-': result = left - right; break;
                    case '*': result = left * right; break;
                    case '/': result = right == 0 ? 0 : left / right; break;
                    case '%': result = right == 0 ? 0 : left % right; break;
                    default: break;
                }
                pile[top & PILE - 1] = result;
            }
            return pile[0];
        }
    }

    /** What days, turnings, chimneys and rain would make of the stack, tried on another one in mind. */
    private static final class Thought {
        private final Hay hay;
        private final Hay mind;
        int best;
        int which;

        Thought(Hay hay, Hay mind) {
            this.hay = hay;
            this.mind = mind;
        }

        Hay behind(int days) {
            mind.takeAll(hay);
            for (int i = 0; i < days; i++) {
                mind.passDay();
            }
            return mind;
        }

        /** Behind how many days a cell (-1: any) is first so hot. */
        int firstDay(int cell, int heat) {
            mind.takeAll(hay);
            for (int days = 0; days <= MOST_DAYS; days++) {
                int now = cell < 0 ? mind.hottestHeat() : mind.heat[cell];
                if (now >= heat) {
                    return days;
                }
                mind.passDay();
            }
            return NOT;
        }

        private void forget() {
            best = NOT;
            which = NOT;
        }

        private void takeCooler(int heat, int choice) {
            if (heat >= 0 && (best == NOT || heat < best)) {
                best = heat;
                which = choice;
            }
        }

        void seekTurn(int k, int n) {
            forget();
            for (int columns = 0; columns < 1 << COLUMNS; columns++) {
                if (Integer.bitCount(columns) == k) {
                    mind.takeAll(hay);
                    for (int column = 0; column < COLUMNS; column++) {
                        if ((columns >> column & 1) != 0) {
                            mind.turnColumn(column);
                        }
                    }
                    takeCooler(mind.hottestBehind(n), columns);
                }
            }
        }

        void seekChimney(int n) {
            forget();
            for (int column = 0; column < COLUMNS; column++) {
                if (hay.chimney[column] == 0) {
                    mind.takeAll(hay);
                    mind.chimney[column] = 1;
                    takeCooler(mind.hottestBehind(n), column);
                }
            }
        }

        int latestTurn() {
            int glow = firstDay(-1, hay.glows);
            for (int days = Math.min(MOST_AHEAD, glow - 1); days >= 0; days--) {
                if (staysDarkIfTurned(days)) {
                    return days;
                }
            }
            return NOT;
        }

        private boolean staysDarkIfTurned(int days) {
            behind(days);
            for (int column = 0; column < COLUMNS; column++) {
                mind.turnColumn(column);
            }
            for (int then = days; then <= MOST_DAYS; then++) {
                if (mind.glowing() > 0) {
                    return false;
                }
                mind.passDay();
            }
            return true;
        }

        void seekSale(int n, int c) {
            mind.takeAll(hay);
            best = mind.value();
            which = 0;
            for (int days = 1; days <= n; days++) {
                mind.passDay();
                int left = mind.value() - c * days;
                if (left > best) {
                    best = left;
                    which = days;
                }
            }
        }

        /** Summers by draws: best is the GOOD at their ends, which is in how many a cell glows. */
        void seekDrawn(int seed, int n, int m, int wet) {
            best = 0;
            which = 0;
            int z = seed;
            for (int summer = 0; summer < n; summer++) {
                mind.takeAll(hay);
                for (int i = 0; i < m; i++) {
                    z = z * 1103515245 + 12345;
                    if ((z >>> 16) % 12 < wet) {
                        mind.wetColumn((z >>> 8) % COLUMNS);
                    }
                    mind.passDay();
                }
                best += mind.goodOfAll();
                if (mind.glowing() > 0) {
                    which++;
                }
            }
        }
    }

    /** The fewest rods by which all that is hot is seen. */
    private static final class Rods {
        private static final int MOST_RODS = 4, NO_PLACES = -1;

        private final Hay hay;
        private final int[] seenFrom = new int[CELLS];
        int places;

        Rods(Hay hay) {
            this.hay = hay;
        }

        int fewest(int heat) {
            int hot = 0;
            for (int cell = 0; cell < CELLS; cell++) {
                seenFrom[cell] = hay.has(cell) ? hay.around(cell) : 0;
                if (hay.has(cell) && hay.heat[cell] >= heat) {
                    hot |= 1 << cell;
                }
            }
            places = NO_PLACES;
            for (int many = 0; many <= MOST_RODS; many++) {
                place(hot, 0, many);
                if (places != NO_PLACES) {
                    return many;
                }
            }
            return NOT;
        }

        /** Tries each rod that sees the first cell not yet seen: no fewest set of rods can do without one of them. */
        private void place(int unseen, int placed, int left) {
            if (unseen == 0) {
                if (places == NO_PLACES || placed < places) {
                    places = placed;
                }
                return;
            }
            if (left <= 0) {
                return;
            }
            int cell = lowestBit(unseen);
            for (int rod = 0; rod < CELLS; rod++) {
                if ((seenFrom[rod] >> cell & 1) != 0) {
                    place(unseen & ~seenFrom[rod], placed | 1 << rod, left - 1);
                }
            }
        }
    }

    /** In which order loads had best be laid, one onto each column. */
    private static final class Laying {
        private static final int ORDERS = 720;

        private final Hay hay;
        private final Hay mind;
        private final int[] damps = new int[COLUMNS];
        private final int[] order = new int[COLUMNS];
        private final int[] bestOrder = new int[COLUMNS];
        private int many;
        int best;

        Laying(Hay hay, Hay mind) {
            this.hay = hay;
            this.mind = mind;
        }

        int placeOf(int column) {
            return best == NOT || column >= many ? NOT : bestOrder[column];
        }

        void seek(Shelf shelf, int n) {
            takeLoads(shelf);
            best = NOT;
            for (int column = 0; column < many; column++) {
                if (hay.high[column] >= LAYERS) {
                    return;
                }
                order[column] = column;
            }
            boolean more = true;
            for (int i = 0; i < ORDERS && more; i++) {
                if (!isRepeated()) {
                    weigh(n);
                }
                more = goToNextOrder();
            }
        }

        private void takeLoads(Shelf shelf) {
            many = 0;
            for (int i = 0; i < shelf.many && i < COLUMNS; i++) {
                long damp = shelf.elements[i];
                if (damp < 0 || damp > MOST[DAMP]) {
                    return;
                }
                damps[i] = (int) damp;
                many++;
            }
        }

        /** Whether an order ahead of this one laid the same: like loads change places in it. */
        private boolean isRepeated() {
            for (int column = 1; column < many; column++) {
                for (int ahead = 0; ahead < column; ahead++) {
                    if (order[ahead] > order[column] && damps[order[ahead]] == damps[order[column]]) {
                        return true;
                    }
                }
            }
            return false;
        }

        private void weigh(int n) {
            mind.takeAll(hay);
            for (int column = 0; column < many; column++) {
                mind.pileOn(column, damps[order[column]], 0);
            }
            int heat = mind.hottestBehind(n);
            if (heat >= 0 && (best == NOT || heat < best)) {
                best = heat;
                System.arraycopy(order, 0, bestOrder, 0, COLUMNS);
            }
        }

        /** The next order by places, column by column; false behind the last one. */
        private boolean goToNextOrder() {
            int rising = many - 2;
            while (rising >= 0 && order[rising] > order[rising + 1]) {
                rising--;
            }
            if (rising < 0) {
                return false;
            }
            int larger = many - 1;
            while (larger > rising && order[larger] < order[rising]) {
                larger--;
            }
            swap(rising, larger);
            for (int left = rising + 1, right = many - 1; left < right; left++, right--) {
                swap(left, right);
            }
            return true;
        }

        private void swap(int one, int other) {
            int kept = order[one];
            order[one] = order[other];
            order[other] = kept;
        }
    }

    /** Farmer and weather by turns. */
    private static final class Game {
        private static final int MOST_DEEDS = 3, NO_DEED = 6;

        private final Hay hay;
        private final Hay[] views = new Hay[MOST_DEEDS + 1];
        private int deeds;
        private int days;
        int best;
        int opening;

        Game(Hay hay, Law law) {
            this.hay = hay;
            for (int i = 0; i <= MOST_DEEDS; i++) {
                views[i] = new Hay(law);
            }
        }

        void play(int n, int t) {
            best = NOT;
            opening = NOT;
            if (hay.cells() > 0) {
                deeds = Math.min(MOST_DEEDS, n);
                days = t;
                views[0].takeAll(hay);
                best = outcome(0, -1, MOST[HEAT] + 1);
            }
        }

        /**
         * How hot it gets if both do their best from here on. What the other would not let come about, being
         * sure of low or of high already, is not looked at any more.
         */
        private int outcome(int made, int low, int high) {
            Hay view = views[made];
            if (made >= deeds) {
                return view.hottestBehind(days);
            }
            boolean farmer = made % 2 == 0;
            int least = low;
            int most = high;
            for (int i = 0; i <= COLUMNS && least < most; i++) {
                int deed = i == 0 ? NO_DEED : i - 1;
                if (deed != NO_DEED && view.high[deed] == 0) {
                    continue;
                }
                views[made + 1].takeAll(view);
                if (deed != NO_DEED && farmer) {
                    views[made + 1].turnColumn(deed);
                } else if (deed != NO_DEED) {
                    views[made + 1].wetColumn(deed);
                }
                int heat = outcome(made + 1, least, most);
                if (farmer && heat < most) {
                    most = heat;
                    opening = made == 0 ? deed : opening;
                } else if (!farmer && heat > least) {
                    least = heat;
                }
            }
            return farmer ? most : least;
        }
    }

    /** What a rod's book fits. */
    private static final class Books {
        private static final int MOST_READINGS = 41, NOT_READ = 100;

        private final Hay hay;
        private final Hay mind;

        Books(Hay hay, Hay mind) {
            this.hay = hay;
            this.mind = mind;
        }

        int judged(Shelf shelf, int cell) {
            mind.takeAll(hay);
            return firstWrong(shelf, cell);
        }

        /** By which of a number (DAMP, SALT) of the told cell all is so, as bits. */
        int fitting(Shelf shelf, int cc, int what) {
            int bits = 0;
            for (int value = 0; value <= MOST[what]; value++) {
                mind.takeAll(hay);
                mind.tell(cc % 100, what, value);
                if (firstWrong(shelf, cc / 100) == NOT) {
                    bits |= 1 << value;
                }
            }
            return bits;
        }

        private int firstWrong(Shelf shelf, int cell) {
            for (int days = 0; days < shelf.many && days < MOST_READINGS; days++) {
                if (days > 0) {
                    mind.passDay();
                }
                long reading = shelf.elements[days];
                if (reading != NOT_READ && reading != mind.heat[cell]) {
                    return days;
                }
            }
            return NOT;
        }
    }

    /** Changes that can be undone, the latest first, and done again. */
    private static final class Changes {
        private static final int MOST_KEPT = 40;

        private final int[] numbers = new int[MOST_KEPT];
        private final int[] whats = new int[MOST_KEPT];
        private final int[] olds = new int[MOST_KEPT];
        private final int[] news = new int[MOST_KEPT];
        int done;
        private int kept;

        void add(int number, int what, int old, int now) {
            if (done >= MOST_KEPT) {
                forgetFirst();
            }
            numbers[done] = number;
            whats[done] = what;
            olds[done] = old;
            news[done] = now;
            done++;
            kept = done;
        }

        private void forgetFirst() {
            System.arraycopy(numbers, 1, numbers, 0, MOST_KEPT - 1);
            System.arraycopy(whats, 1, whats, 0, MOST_KEPT - 1);
            System.arraycopy(olds, 1, olds, 0, MOST_KEPT - 1);
            System.arraycopy(news, 1, news, 0, MOST_KEPT - 1);
            done = MOST_KEPT - 1;
        }

        int undoIn(Hay hay) {
            if (done <= 0) {
                return STATE;
            }
            done--;
            hay.tell(numbers[done], whats[done], olds[done]);
            return done;
        }

        int redoIn(Hay hay) {
            if (done >= kept) {
                return STATE;
            }
            hay.tell(numbers[done], whats[done], news[done]);
            done++;
            return kept - done;
        }
    }

    /** Bodies of kinds, their acts, and the trace of the latest one. */
    private static final class Bodies {
        static final int KINDS = 8, TRACED = 24;
        private static final int MOST_BODIES = 50, ACTS = 4, DEEPEST = 40;
        private static final int READS = 0, HEATS = 1, OPENS = 2, TELLS = 3;
        // Of each kind: the kind above it, and the number of its own body of each act (0: none).
        private static final int[] ABOVE = {-1, 0, 0, 2, 1, 3, 0, 6};
        private static final int[] OWN = {
            1, 10, 11, 2,
            20, 0, 0, 0,
            0, 30, 0, 0,
            0, 41, 40, 0,
            0, 0, 0, 50,
            0, 0, 60, 61,
            70, 0, 0, 0,
            81, 80, 0, 0,
        };

        private final int[] kinds = new int[MOST_BODIES];
        int many;
        final int[] begun = new int[TRACED];
        int ran;
        private int actor;

        int add(int kind) {
            if (many >= MOST_BODIES) {
                return FULL;
            }
            kinds[many] = kind;
            many++;
            return many - 1;
        }

        /** The kind of a body; -1: there is no such body. */
        int kindOf(int body) {
            return body >= 0 && body < many ? kinds[body] : -1;
        }

        static boolean isUnder(int kind, int top) {
            int at = kind;
            for (int i = 0; i < KINDS && at >= 0 && at != top; i++) {
                at = ABOVE[at];
            }
            return at >= 0 && at == top;
        }

        int perform(int body, int act, int x) {
            ran = 0;
            if (kindOf(body) < 0 || act < READS || act > TELLS) {
                return 0;
            }
            actor = body;
            return begin(kinds[body], act, x, 0);
        }

        /** Runs the body of an act that a kind has, or the next kind above it that has one. */
        private int begin(int kind, int act, int x, int depth) {
            int owner = kind;
            for (int i = 0; i < KINDS && owner >= 0 && OWN[owner * ACTS + act] == 0; i++) {
                owner = ABOVE[owner];
            }
            if (owner < 0 || depth > DEEPEST) {
                return 0;
            }
            int number = OWN[owner * ACTS + act];
            if (ran < TRACED) {
                begun[ran] = number;
            }
            ran++;
            return run(number, owner, x, depth + 1);
        }

        private int run(int number, int owner, int x, int depth) {
            int kind = kinds[actor];
            int above = ABOVE[owner];
            switch (number) {
                case 1: return x + actor;
                case 2: return begin(kind, HEATS, x, depth) - begin(kind, OPENS, 1, depth);
                case 10: return begin(kind, READS, x, depth) * 2;
                case 11: return x ^ actor;
                case 20: return begin(above, READS, x, depth) + 3;
                case 30: return -begin(above, HEATS, x, depth);
                case 40: return begin(above, OPENS, x, depth) * 3;
                case 41: return begin(above, HEATS, x + 1, depth);
                case 50: return begin(above, TELLS, x, depth) ^ 5;
                case 60: return begin(above, OPENS, x, depth) - begin(kind, READS, 2, depth);
                case 61: return begin(above, TELLS, x, depth) + 1;
                case 70: return begin(above, READS, x, depth) * 2;
                case 80: return begin(above, HEATS, x, depth) + begin(kind, OPENS, 2, depth);
                case 81: return begin(above, READS, x, depth) - 1;
                default: return 0;
            }
        }
    }

    /** A shelf: it holds nothing, a body, or a row. */
    private static final class Shelf {
        static final int BYTES = 0, SHORTS = 1, INTS = 2, LONGS = 3, BOOLEANS = 4, LONGEST = 60;
        private static final int NOTHING = 0, BODY = 1, ROW = 2;

        private int holds = NOTHING;
        private int body;
        int sort;
        int many;
        final long[] elements = new long[LONGEST];

        void holdNothing() {
            holds = NOTHING;
        }

        void holdBody(int number) {
            holds = BODY;
            body = number;
        }

        void holdRow(int itsSort, int n) {
            holds = ROW;
            sort = itsSort;
            many = n;
            for (int i = 0; i < LONGEST; i++) {
                elements[i] = 0;
            }
        }

        boolean isEmpty() {
            return holds == NOTHING;
        }

        boolean hasRow() {
            return holds == ROW;
        }

        /** The number of the body that it holds; -1: it holds none. */
        int heldBody() {
            return holds == BODY ? body : -1;
        }

        boolean hasPlaces(int from, int n) {
            return n >= 0 && n <= many && from >= 0 && from <= many - n;
        }

        /** Why this is no row of bytes; 0: it is one. */
        int refusalOfBytes() {
            if (holds == NOTHING) {
                return NOTHING_THERE;
            }
            return holds == ROW && sort == BYTES ? 0 : OTHER_KIND;
        }

        /** Why this is no row with such a place; 0: it is one. */
        int refusalOfPlace(int i) {
            if (holds == NOTHING) {
                return NOTHING_THERE;
            }
            if (holds != ROW) {
                return OTHER_KIND;
            }
            return i >= 0 && i < many ? 0 : NO_PLACE;
        }

        void store(int i, long v) {
            switch (sort) {
                case BYTES: elements[i] = (byte) v; break;
                case SHORTS: elements[i] = (short) v; break;
                case INTS: elements[i] = (int) v; break;
                case LONGS: elements[i] = v; break;
                default: elements[i] = v != 0 ? 1 : 0; break;
            }
        }
    }
}
