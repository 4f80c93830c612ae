/** The sentences of promises 34 to 43, and of what is said of them ahead, that name a boundary: a method for each. */
public final class ActsEdgesTest {
    private static final int BAD = -1, FULL = -3;
    private static final Due due = new Due();

    public static void main(String[] args) {
        due.sentencesOf(ActsEdgesTest.class, 34, 43);
        due.finish("ActsEdgesTest");
    }

    /** Bodies 0 to 7, of the KINDS 0 to 7. */
    private static HotStack eightBodies() {
        HotStack x = new HotStack();
        for (int kind = 0; kind <= 7; kind++) {
            x.body(kind);
        }
        return x;
    }

    // ---- promise 34: body

    static void bodyKinds() {
        due.sentence(34, "A BODY of a KIND (0 .. 7) is kept: its number. BAD, FULL.");
        HotStack x = new HotStack();
        for (int kind : Due.beyond(0, 7)) {
            due.due("body(" + kind + ")", x.body(kind), BAD);
        }
        due.due("none came", x.count(4), 0);
        due.due("the first", x.body(7), 0);
        due.due("the second", x.body(0), 1);
        due.due("two", x.count(4), 2);
    }

    static void bodyFull() {
        due.sentence(34, "BODIES 0 .. 49 are kept by call");
        HotStack x = new HotStack();
        for (int i = 0; i <= 49; i++) {
            due.due("body", x.body(7 - i % 8), i);
        }
        due.due("a 51st", x.body(0), FULL);
        due.due("again", x.body(7), FULL);
        due.due("BAD is named first", x.body(8), BAD);
        due.due("BAD is named first", x.body(-1), BAD);
        due.due("bodies", x.count(4), 50);
        due.due("the last is a 6", x.keep(0, 49) == 1 ? x.taken(0, 6) : -9, 6);
        due.due("the first is a 7", x.keep(0, 0) == 1 ? x.taken(0, 7) : -9, 7);
    }

    static void bodyRefused() {
        due.sentence(34, "What is answered so changes nothing.");
        HotStack x = Due.withAll();
        x.body(8);
        x.body(-1);
        x.trace(-1);
        x.trace(24);
        x.keep(2, 6);
        x.keep(2, -2);
        x.keep(6, 0);
        x.row(2, 5, 3);
        x.row(2, 0, 61);
        x.row(2, 0, -1);
        x.row(6, 0, 1);
        x.put(2, 4, 1);
        x.put(2, -1, 1);
        x.put(0, 0, 1);
        x.put(1, 0, 1);
        x.put(6, 0, 1);
        x.element(2, 4);
        x.element(0, 0);
        x.shift(2, 0, 3, 0, 1);
        x.shift(2, 0, 2, 1, 4);
        x.shift(2, 0, 0, 0, 1);
        x.shift(1, 0, 2, 0, 1);
        x.shift(6, 0, 2, 0, 1);
        x.taken(1, 3);
        x.taken(0, 0);
        x.taken(1, 8);
        x.count(6);
        x.count(-1);
        due.isAsWithAll(x);
    }

    // ---- promise 35: act

    private static void hasNoAct(HotStack x, int body, int act) {
        x.act(0, 3, 5);
        due.due("act(" + body + ", " + act + ", 5)", x.act(body, act, 5), 0);
        due.due("no bodies ran", x.count(5), 0);
        due.due("no TRACE", x.trace(0), BAD);
    }

    static void actNoSuchBody() {
        due.sentence(35, "0, and no TRACE then: no such BODY, ACT.");
        HotStack x = eightBodies();
        for (int body : Due.beyond(0, 7)) {
            hasNoAct(x, body, 1);
        }
        for (int act : Due.beyond(0, 3)) {
            hasNoAct(x, 0, act);
        }
        hasNoAct(x, 8, 4);
        due.due("of no bodies", new HotStack().act(0, 0, 7), 0);
        HotStack y = new HotStack();
        for (int i = 0; i < 50; i++) {
            y.body(0);
        }
        due.due("body 49 reads: x + 49", y.act(49, 0, 1), 50);
        hasNoAct(y, 50, 0);
    }

    static void actActs() {
        due.sentence(35, "ACTS with x (an int that wraps): 0 reads, 1 heats, 2 opens, 3 tells; n its number.");
        HotStack x = new HotStack();
        x.body(0);
        x.body(0);
        int most = Integer.MAX_VALUE;
        int least = Integer.MIN_VALUE;
        due.due("reads: x + 1", x.act(1, 0, most), least);
        due.due("heats: (x + 1) * 2", x.act(1, 1, most), 0);
        due.due("heats: (x + 1) * 2", x.act(1, 1, 1 << 30), least + 2);
        due.due("opens: x ^ 1", x.act(1, 2, most), most - 1);
        due.due("opens: x ^ 1", x.act(1, 2, least), least + 1);
        due.due("tells: (x + 1) * 2 - (1 ^ 1)", x.act(1, 3, least), 2);
        due.due("tells: x * 2 - (1 ^ 0)", x.act(0, 3, least), -1);
        due.due("reads: x + 0", x.act(0, 0, least), least);
        x.body(2);
        due.due("SMOKE heats: -((x + 2) * 2)", x.act(2, 1, most), -2);
        due.due("SMOKE heats: -((x + 2) * 2) wraps", x.act(2, 1, (1 << 30) - 2), least);
        x.body(3);
        due.due("CHIMNEY heats: of x + 1", x.act(3, 1, most), -((least + 3) * 2));
        due.due("CHIMNEY opens: (x ^ 3) * 3", x.act(3, 2, most), (most - 3) * 3);
        x.body(6);
        due.due("SALT reads: (x + 4) * 2", x.act(4, 0, most - 3), 0);
    }

    static void actNextKindAbove() {
        due.sentence(35, "reads(..) and so on: the body of its own KIND, or of the next KIND above that has one");
        HotStack x = eightBodies();
        int[][] want = {
            {5, 10, 5, 9},
            {9, 18, 4, 18},
            {7, -14, 7, -17},
            {8, -18, 18, -24},
            {12, 24, 1, 22},
            {10, -22, -7, -26},
            {22, 44, 3, 37},
            {23, 51, 2, 45},
        };
        for (int kind = 0; kind <= 7; kind++) {
            for (int act = 0; act <= 3; act++) {
                due.due("act(" + kind + ", " + act + ", 5)", x.act(kind, act, 5), want[kind][act]);
            }
        }
    }

    static void actSuper() {
        due.sentence(35, "super: from the KIND above the body's on.");
        HotStack x = eightBodies();
        traced(x, 7, 0, 81, 70, 1);
        traced(x, 7, 1, 80, 10, 81, 70, 1, 11);
        traced(x, 5, 2, 60, 40, 11, 1);
        traced(x, 5, 1, 41, 30, 10, 1);
        traced(x, 4, 3, 50, 2, 10, 20, 1, 11);
    }

    private static void traced(HotStack x, int body, int act, int... want) {
        x.act(body, act, 3);
        due.due("bodies that ran", x.count(5), want.length);
        for (int i = 0; i < want.length; i++) {
            due.due("trace(" + i + ") of act(" + body + ", " + act + ")", x.trace(i), want[i]);
        }
        for (int i = want.length; i <= 26; i++) {
            due.due("trace(" + i + ") of act(" + body + ", " + act + ")", x.trace(i), BAD);
        }
    }

    // ---- promise 36: trace

    static void traceLatest() {
        due.sentence(36, "THE TRACE: numbers of the bodies that ran in the latest act(), as they began");
        HotStack x = eightBodies();
        traced(x, 0, 3, 2, 10, 1, 11);
        traced(x, 0, 2, 11);
        traced(x, 1, 0, 20, 1);
        due.due("no such ACT", x.act(1, 4, 0), 0);
        due.due("no TRACE", x.trace(0), BAD);
    }

    static void tracePlaces() {
        due.sentence(36, "THE TRACE's i-th body. BAD.");
        HotStack x = eightBodies();
        due.due("none yet", x.trace(0), BAD);
        x.act(0, 3, 1);
        for (int i : Due.beyond(0, 3)) {
            due.due("trace(" + i + ")", x.trace(i), BAD);
        }
        due.due("the first", x.trace(0), 2);
        due.due("the last", x.trace(3), 11);
    }

    static void traceLongest() {
        due.sentence(36, "the first 24 are kept");
        HotStack x = eightBodies();
        // No act of any KIND runs more bodies than tells of a FORK.
        traced(x, 5, 3, 61, 2, 41, 30, 10, 1, 60, 40, 11, 1);
        traced(x, 7, 3, 2, 80, 10, 81, 70, 1, 11, 11);
        traced(x, 3, 3, 2, 41, 30, 10, 1, 40, 11);
        due.due("trace(23)", x.trace(23), BAD);
        due.due("trace(24)", x.trace(24), BAD);
    }

    // ---- promise 37: keep

    static void keepShelves() {
        due.sentence(37, "SHELVES 0 .. 5 each hold nothing (at first), a BODY, or a ROW");
        HotStack x = eightBodies();
        for (int shelf : Due.beyond(0, 5)) {
            due.due("keep(" + shelf + ", 0)", x.keep(shelf, 0), BAD);
            due.due("keep(" + shelf + ", -1)", x.keep(shelf, -1), BAD);
        }
        for (int shelf = 0; shelf <= 5; shelf++) {
            due.due("nothing", x.taken(shelf, 0), -11);
            due.due("keep", x.keep(shelf, 7 - shelf), 1);
            due.due("it is there", x.taken(shelf, 0), 7 - shelf);
        }
    }

    static void keepBodies() {
        due.sentence(37, "A SHELF holds nothing (body -1), or a BODY: 1. BAD.");
        HotStack x = new HotStack();
        due.due("no body yet", x.keep(0, 0), BAD);
        due.due("nothing", x.keep(0, -1), 1);
        x.body(4);
        x.body(5);
        for (int body : Due.beyond(0, 1)) {
            due.due("keep(0, " + body + ")", x.keep(0, body), body == -1 ? 1 : BAD);
        }
        due.due("body 49 is not there", x.keep(0, 49), BAD);
        due.due("the last", x.keep(0, 1), 1);
        due.due("a FORK", x.taken(0, 5), 5);
        due.due("BAD", x.keep(0, 2), BAD);
        due.due("it holds the FORK still", x.taken(0, 5), 5);
        due.due("nothing", x.keep(0, -1), 1);
        due.due("nothing is there", x.taken(0, 5), -11);
        Due.bytes(x, 0, 7);
        due.due("a BODY instead of a ROW", x.keep(0, 0), 1);
        due.due("no ROW", x.put(0, 0, 1), -12);
        Due.bytes(x, 0, 7);
        due.due("nothing instead of a ROW", x.keep(0, -1), 1);
        due.due("nothing", x.put(0, 0, 1), -11);
    }

    // ---- promise 38: row

    static void rowSorts() {
        due.sentence(38, "a ROW: of 0 bytes, 1 shorts, 2 ints, 3 longs, 4 booleans");
        HotStack x = new HotStack();
        for (int sort : Due.beyond(0, 4)) {
            due.due("row(0, " + sort + ", 1)", x.row(0, sort, 1), BAD);
        }
        due.due("nothing came", x.put(0, 0, 1), -11);
        long[] want = {1, 257, 65537 + 256, (1L << 40) + 65537 + 256, 1};
        for (int sort = 0; sort <= 4; sort++) {
            due.due("row", x.row(0, sort, 1), 1);
            x.put(0, 0, (1L << 40) + 65537 + 256);
            due.due("sort " + sort, x.element(0, 0), want[sort]);
        }
    }

    static void rowShelves() {
        due.sentence(38, "SHELVES 0 .. 5");
        HotStack x = new HotStack();
        for (int shelf : Due.beyond(0, 5)) {
            due.due("row(" + shelf + ", 0, 1)", x.row(shelf, 0, 1), BAD);
            due.due("row(" + shelf + ", 0, -1)", x.row(shelf, 0, -1), BAD);
        }
        for (int shelf = 0; shelf <= 5; shelf++) {
            due.due("row(" + shelf + ", 0, 1)", x.row(shelf, 0, 1), 1);
            x.put(shelf, 0, shelf + 1);
        }
        for (int shelf = 0; shelf <= 5; shelf++) {
            due.due("each its own", x.element(shelf, 0), shelf + 1);
        }
    }

    static void rowSizes() {
        due.sentence(38, "of 0 .. 60 elements, 0 at first (false)");
        for (int sort = 0; sort <= 4; sort++) {
            HotStack x = new HotStack();
            for (int n : new int[] {61, 62, 120, 256, 65536, Integer.MAX_VALUE}) {
                due.due("n " + n, x.row(0, sort, n), BAD);
            }
            due.due("60", x.row(1, sort, 60), 1);
            for (int i = 0; i < 60; i++) {
                due.due("0 at first", x.element(1, i), 0);
                due.due("put", x.put(1, i, 1), 1);
            }
            due.due("no 61st", x.put(1, 60, 1), -13);
            due.due("0", x.row(2, sort, 0), 1);
            due.due("no first", x.put(2, 0, 1), -13);
            due.due("60 anew", x.row(1, sort, 60), 1);
            due.due("0 at first again", x.element(1, 0), 0);
            due.due("0 at first again", x.element(1, 59), 0);
            x.put(1, 5, 1);
            x.row(1, sort, 3);
            x.row(1, sort, 6);
            due.due("0 at first behind a shorter one", x.element(1, 5), 0);
            due.due("nothing came on 0", x.put(0, 0, 1), -11);
        }
    }

    static void rowBelowZero() {
        due.sentence(38, "BAD (sort, n above 60); -14.");
        HotStack x = new HotStack();
        Due.bytes(x, 0, 7);
        for (int n : new int[] {-1, -2, -60, -61, -256, -65536, Integer.MIN_VALUE, Integer.MIN_VALUE + 1}) {
            due.due("n " + n, x.row(0, 0, n), -14);
            due.due("n " + n + ", no sort", x.row(0, 5, n), BAD);
            due.due("n " + n + ", no sort", x.row(0, -1, n), BAD);
            due.due("n " + n + ", no shelf", x.row(6, 0, n), BAD);
        }
        due.due("the row stays", x.element(0, 0), 7);
    }

    // ---- promise 39: put

    static void putLowestBits() {
        due.sentence(39, "what is put in keeps its lowest bits (a boolean: whether it is not 0; 1 or 0)");
        HotStack x = new HotStack();
        long[] told = {0, 1, -1, 127, 128, 255, 256, -128, -129, 32767, 32768, 65535, 65536, -32768, -32769, 2147483647L,
            2147483648L, 4294967295L, 4294967296L, -2147483648L, -2147483649L, Long.MAX_VALUE, Long.MIN_VALUE};
        for (int sort = 0; sort <= 4; sort++) {
            x.row(sort, sort, 1);
            for (long v : told) {
                long want = sort == 0 ? (byte) v : sort == 1 ? (short) v : sort == 2 ? (int) v : sort == 3 ? v : v == 0 ? 0 : 1;
                due.due("put", x.put(sort, 0, v), 1);
                due.due("sort " + sort + ", " + v, x.element(sort, 0), want);
            }
        }
    }

    static void putRefusals() {
        due.sentence(39, "Element i of a ROW becomes v: 1. BAD, -11, -12, -13.");
        HotStack x = eightBodies();
        for (int shelf : Due.beyond(0, 5)) {
            due.due("shelf " + shelf, x.put(shelf, 0, 1), BAD);
            due.due("shelf " + shelf + ", no place", x.put(shelf, -1, 1), BAD);
        }
        due.due("nothing", x.put(0, 0, 1), -11);
        due.due("nothing, no place", x.put(0, -1, 1), -11);
        x.keep(0, 0);
        due.due("a body", x.put(0, 0, 1), -12);
        due.due("a body, no place", x.put(0, 60, 1), -12);
    }

    static void putPlaces() {
        due.sentence(39, "-13 a place that is not there");
        HotStack x = new HotStack();
        for (int sort = 0; sort <= 4; sort++) {
            x.row(0, sort, 3);
            for (int i : Due.beyond(0, 2)) {
                due.due("place " + i, x.put(0, i, 1), -13);
            }
            for (int i = 0; i <= 2; i++) {
                due.due("nothing came", x.element(0, i), 0);
                due.due("place " + i, x.put(0, i, 1), 1);
            }
        }
        x.row(0, 0, 0);
        due.due("an empty row", x.put(0, 0, 1), -13);
        due.due("an empty row", x.put(0, -1, 1), -13);
        x.row(0, 0, 60);
        due.due("the last place", x.put(0, 59, 1), 1);
        due.due("behind it", x.put(0, 60, 1), -13);
    }

    // ---- promise 40: element

    static void elementRefusals() {
        due.sentence(40, "Element i of a ROW; Long.MIN_VALUE: BAD, -11 to -13.");
        HotStack x = eightBodies();
        for (int shelf : Due.beyond(0, 5)) {
            due.due("shelf " + shelf, x.element(shelf, 0), Long.MIN_VALUE);
        }
        due.due("nothing", x.element(0, 0), Long.MIN_VALUE);
        due.due("nothing, no place", x.element(0, -1), Long.MIN_VALUE);
        x.keep(0, 0);
        due.due("a body", x.element(0, 0), Long.MIN_VALUE);
        for (int sort = 0; sort <= 4; sort++) {
            x.row(0, sort, 3);
            for (int i : Due.beyond(0, 2)) {
                due.due("place " + i, x.element(0, i), Long.MIN_VALUE);
            }
            due.due("the last place", x.element(0, 2), 0);
            x.row(0, sort, 0);
            due.due("an empty row", x.element(0, 0), Long.MIN_VALUE);
        }
        Due.fill(x, 0, 3, Long.MIN_VALUE, Long.MAX_VALUE, -11, -1);
        due.due("the least", x.element(0, 0), Long.MIN_VALUE);
        due.due("the most", x.element(0, 1), Long.MAX_VALUE);
        due.due("-11 as an element", x.element(0, 2), -11);
        due.due("-1 as an element", x.element(0, 3), -1);
    }

    // ---- promise 41: shift

    private static void rowIs(HotStack x, int shelf, long... want) {
        for (int i = 0; i < want.length; i++) {
            due.due("element " + i, x.element(shelf, i), want[i]);
        }
    }

    static void shiftAsBefore() {
        due.sentence(41, "n elements of a ROW from i on come to another one (or the same) from j on, as they all were before: n.");
        HotStack x = new HotStack();
        Due.fill(x, 0, 2, 1, 2, 3, 4, 5);
        due.due("upward by 1", x.shift(0, 0, 0, 1, 4), 4);
        rowIs(x, 0, 1, 1, 2, 3, 4);
        due.due("downward by 1", x.shift(0, 1, 0, 0, 4), 4);
        rowIs(x, 0, 1, 2, 3, 4, 4);
        due.due("upward by 2", x.shift(0, 0, 0, 2, 3), 3);
        rowIs(x, 0, 1, 2, 1, 2, 3);
        due.due("onto itself", x.shift(0, 0, 0, 0, 5), 5);
        rowIs(x, 0, 1, 2, 1, 2, 3);
        Due.fill(x, 1, 2, 9, 9);
        due.due("to another", x.shift(0, 3, 1, 0, 2), 2);
        rowIs(x, 1, 2, 3);
        rowIs(x, 0, 1, 2, 1, 2, 3);
        due.due("one to its end", x.shift(1, 0, 0, 4, 1), 1);
        rowIs(x, 0, 1, 2, 1, 2, 2);
        x.row(2, 4, 60);
        x.row(3, 4, 60);
        x.put(2, 59, 1);
        due.due("all 60", x.shift(2, 0, 3, 0, 60), 60);
        due.due("the last", x.element(3, 59), 1);
    }

    static void shiftShelves() {
        due.sentence(41, "SHELVES 0 .. 5");
        HotStack x = new HotStack();
        Due.bytes(x, 0, 1, 2);
        Due.bytes(x, 5, 3, 4);
        for (int shelf : Due.beyond(0, 5)) {
            due.due("from shelf " + shelf, x.shift(shelf, 0, 0, 0, 1), BAD);
            due.due("to shelf " + shelf, x.shift(0, 0, shelf, 0, 1), BAD);
            due.due("from shelf " + shelf + " to nothing", x.shift(shelf, 9, 1, 9, -1), BAD);
            due.due("from nothing to shelf " + shelf, x.shift(1, 9, shelf, 9, -1), BAD);
        }
        due.due("from the last", x.shift(5, 1, 0, 1, 1), 1);
        rowIs(x, 0, 1, 4);
    }

    static void shiftNothing() {
        due.sentence(41, "BAD, -11 (either), -12 (no ROWS, or of unlike sorts), -13");
        HotStack x = eightBodies();
        Due.bytes(x, 0, 1, 2);
        due.due("from nothing", x.shift(1, 0, 0, 0, 1), -11);
        due.due("to nothing", x.shift(0, 0, 1, 0, 1), -11);
        due.due("nothing to nothing", x.shift(1, 0, 1, 0, 0), -11);
        due.due("nothing to nothing", x.shift(1, 0, 2, 0, 0), -11);
        x.keep(3, 0);
        due.due("from nothing to a body", x.shift(1, 0, 3, 0, 1), -11);
        due.due("from a body to nothing", x.shift(3, 0, 1, 0, 1), -11);
        due.due("from nothing, no place", x.shift(1, -1, 0, 9, -1), -11);
        due.due("to nothing, no place", x.shift(0, -1, 1, 9, -1), -11);
        due.due("as it was", x.element(0, 1), 2);
    }

    static void shiftKinds() {
        due.sentence(41, "-12 (no ROWS, or of unlike sorts)");
        HotStack x = eightBodies();
        Due.bytes(x, 0, 1, 2);
        x.keep(3, 0);
        due.due("from a body", x.shift(3, 0, 0, 0, 1), -12);
        due.due("to a body", x.shift(0, 0, 3, 0, 1), -12);
        due.due("a body to itself", x.shift(3, 0, 3, 0, 0), -12);
        due.due("to a body, no place", x.shift(0, 5, 3, 5, -1), -12);
        x.row(3, 0, 4);
        x.keep(3, 0);
        due.due("to a body where a row of bytes was", x.shift(0, 0, 3, 0, 1), -12);
        for (int one = 0; one <= 4; one++) {
            for (int other = 0; other <= 4; other++) {
                x.row(4, one, 2);
                x.row(5, other, 2);
                due.due("sorts " + one + ", " + other, x.shift(4, 0, 5, 0, 2), one == other ? 2 : -12);
                due.due("sorts " + one + ", " + other + ", no place", x.shift(4, 0, 5, 0, 3), one == other ? -13 : -12);
                due.due("sorts " + one + ", " + other + ", none", x.shift(4, 0, 5, 0, 0), one == other ? 0 : -12);
            }
        }
    }

    static void shiftPlaces() {
        due.sentence(41, "-13 (n below 0, too; with n 0, too, if i or j is above how many there are).");
        HotStack x = new HotStack();
        Due.bytes(x, 0, 1, 2, 3);
        Due.bytes(x, 1, 4, 5);
        int least = Integer.MIN_VALUE;
        int most = Integer.MAX_VALUE;
        int[][] wrong = {{-1, 0, 1}, {0, -1, 1}, {0, 0, -1}, {3, 0, 1}, {0, 2, 1}, {2, 0, 2}, {0, 1, 2}, {0, 0, 3}, {4, 0, 0},
            {0, 3, 0}, {-1, 0, 0}, {0, -1, 0}, {least, 0, 0}, {0, least, 0}, {0, 0, least}, {most, 0, 0}, {0, most, 0},
            {0, 0, most}, {most, 0, 1}, {0, most, 1}, {1, 1, most}, {most, most, most}, {least, least, least},
            {most, 0, 2}, {2, 0, most}, {1, 0, most}, {least, 0, most}, {-1, -1, 2}, {3, 2, -1}, {4, 0, -1}, {65536, 0, 1},
            {256, 0, 1}, {0, 65536, 1}, {0, 0, 65537}};
        for (int[] w : wrong) {
            due.due("shift " + w[0] + ", " + w[1] + ", " + w[2], x.shift(0, w[0], 1, w[1], w[2]), -13);
        }
        rowIs(x, 0, 1, 2, 3);
        rowIs(x, 1, 4, 5);
        due.due("none, at both ends", x.shift(0, 3, 1, 2, 0), 0);
        due.due("none", x.shift(0, 0, 1, 0, 0), 0);
        due.due("the last to the last", x.shift(0, 2, 1, 1, 1), 1);
        due.due("all that there are", x.shift(0, 1, 1, 0, 2), 2);
        x.row(2, 0, 0);
        due.due("none of an empty row", x.shift(2, 0, 2, 0, 0), 0);
        due.due("one of an empty row", x.shift(2, 0, 2, 0, 1), -13);
        due.due("none above an empty row", x.shift(2, 1, 2, 0, 0), -13);
        due.due("none above an empty row", x.shift(2, 0, 2, 1, 0), -13);
    }

    // ---- promise 42: taken

    static void takenKinds() {
        due.sentence(42, "What a SHELF holds, taken for a BODY of KIND k (0 .. 7), or under it: its KIND.");
        HotStack x = eightBodies();
        int[] above = {-1, 0, 0, 2, 1, 3, 0, 6};
        for (int kind = 0; kind <= 7; kind++) {
            x.keep(0, kind);
            for (int k : Due.beyond(0, 7)) {
                due.due("a " + kind + " for a " + k, x.taken(0, k), BAD);
            }
            for (int k = 0; k <= 7; k++) {
                boolean under = false;
                for (int at = kind; at >= 0; at = above[at]) {
                    under |= at == k;
                }
                due.due("a " + kind + " for a " + k, x.taken(0, k), under ? kind : -12);
            }
        }
    }

    static void takenUnder() {
        due.sentence(42, "0 ROD; 1 HAND under ROD; 2 SMOKE under ROD; 3 CHIMNEY under SMOKE; 4 BARN under HAND; 5 FORK under "
            + "CHIMNEY; 6 SALT under ROD; 7 GLOW under SALT.");
        HotStack x = eightBodies();
        int[][] under = {{0, 0}, {1, 0}, {2, 0}, {3, 2}, {3, 0}, {4, 1}, {4, 0}, {5, 3}, {5, 2}, {5, 0}, {6, 0}, {7, 6}, {7, 0}};
        for (int[] u : under) {
            x.keep(0, u[0]);
            due.due("a " + u[0] + " is under " + u[1], x.taken(0, u[1]), u[0]);
            if (u[0] != u[1]) {
                x.keep(0, u[1]);
                due.due("a " + u[1] + " is not under " + u[0], x.taken(0, u[0]), -12);
            }
        }
    }

    static void takenRefusals() {
        due.sentence(42, "or under it: its KIND. BAD, -11, -12.");
        HotStack x = eightBodies();
        for (int shelf : Due.beyond(0, 5)) {
            due.due("shelf " + shelf, x.taken(shelf, 0), BAD);
        }
        for (int k : Due.beyond(0, 7)) {
            due.due("nothing, k " + k, x.taken(5, k), BAD);
        }
        due.due("nothing", x.taken(5, 0), -11);
        due.due("nothing", x.taken(5, 7), -11);
        for (int sort = 0; sort <= 4; sort++) {
            x.row(5, sort, 3);
            due.due("a row of sort " + sort, x.taken(5, 0), -12);
            due.due("a row of sort " + sort + ", k 8", x.taken(5, 8), BAD);
        }
        x.keep(5, 0);
        x.row(5, 0, 1);
        due.due("a row where a ROD was", x.taken(5, 0), -12);
        x.keep(5, -1);
        due.due("nothing where a row was", x.taken(5, 0), -11);
    }

    // ---- promise 43: count

    static void countWhat() {
        due.sentence(43, "How many: 0 CELLS that are there, 1 that GLOW, 2 bytes on THE TAPE, 3 changes that may be UNDONE, 4 "
            + "BODIES");
        HotStack x = Due.threeCells(null);
        for (int what : Due.beyond(0, 5)) {
            due.due("count(" + what + ")", x.count(what), BAD);
        }
        for (int i = 0; i < 4; i++) {
            x.feed('d');
        }
        for (int i = 0; i < 5; i++) {
            x.body(0);
        }
        x.mend(5, 1, 90);
        x.mend(6, 1, 99);
        x.act(0, 0, 1);
        int[] want = {3, 2, 4, 2, 5, 1};
        for (int what = 0; what <= 5; what++) {
            due.due("count(" + what + ")", x.count(what), want[what]);
        }
    }

    static void countGlow() {
        due.sentence(43, "1 that GLOW");
        HotStack x = Due.threeCells(null);
        x.mend(5, 1, 89);
        due.due("89", x.count(1), 0);
        x.mend(5, 1, 90);
        due.due("90", x.count(1), 1);
        x.mend(0, 6, 91);
        due.due("90 of 91", x.count(1), 0);
        x.mend(0, 6, 30);
        due.due("90 of 30", x.count(1), 1);
        x.mend(6, 1, 30);
        due.due("30 of 30", x.count(1), 2);
        x.mend(25, 1, 29);
        due.due("29 of 30", x.count(1), 2);
        HotStack y = new HotStack();
        Due.hide(y, 0);
        due.due("what lies there no more", y.count(1), 0);
    }

    static void countMost() {
        due.sentence(43, "How many: 0 CELLS that are there");
        HotStack x = new HotStack();
        for (int i = 0; i < 31; i++) {
            x.cart(i / 5, 0);
        }
        due.due("30 CELLS", x.count(0), 30);
        for (int i = 0; i < 121; i++) {
            x.feed('d');
        }
        due.due("120 bytes", x.count(2), 120);
        for (int i = 0; i < 41; i++) {
            x.mend(0, 1, 30 + i);
        }
        due.due("40 changes", x.count(3), 40);
        for (int i = 0; i < 51; i++) {
            x.body(0);
        }
        due.due("50 BODIES", x.count(4), 50);
        x.mend(0, 6, 30);
        for (int cell = 0; cell < 30; cell++) {
            x.mend(cell, 1, 99);
        }
        due.due("30 GLOW", x.count(1), 30);
    }

    static void countChanges() {
        due.sentence(43, "3 changes that may be UNDONE");
        HotStack x = Due.threeCells(null);
        x.mend(5, 1, 30);
        x.mend(5, 1, 40);
        x.undo();
        due.due("one", x.count(3), 1);
        x.redo();
        due.due("two", x.count(3), 2);
        x.undo();
        x.undo();
        due.due("none", x.count(3), 0);
    }

    static void countRan() {
        due.sentence(43, "5 bodies that ran in the latest act() (all, kept or not). BAD.");
        HotStack x = eightBodies();
        due.due("none yet", x.count(5), 0);
        int[][] many = {{1, 2, 1, 4}, {2, 3, 1, 5}, {1, 3, 1, 5}, {1, 4, 2, 7}, {2, 3, 1, 6}, {1, 4, 4, 10}, {2, 3, 1, 5},
            {3, 6, 1, 8}};
        for (int kind = 0; kind <= 7; kind++) {
            for (int act = 0; act <= 3; act++) {
                x.act(kind, act, 1);
                due.due("bodies of act(" + kind + ", " + act + ")", x.count(5), many[kind][act]);
            }
        }
        x.act(0, 4, 1);
        due.due("no such ACT: none", x.count(5), 0);
    }
}
