/** Promises 34 to 43: bodies, acts, the trace, shelves, counts. */
public final class ActsTest {
    private static final int BAD = -1, FULL = -3;
    private static final Due due = new Due();

    public static void main(String[] args) {
        body();
        act();
        trace();
        keep();
        row();
        put();
        element();
        shift();
        taken();
        count();
        due.finish("ActsTest");
    }

    private static void body() {
        due.promise(34);
        HotStack x = new HotStack();
        due.due("kind -1", x.body(-1), BAD);
        due.due("kind 8", x.body(8), BAD);
        for (int i = 0; i < 50; i++) {
            due.due("body", x.body(i % 8), i);
        }
        due.due("full", x.body(0), FULL);
        due.due("full and BAD", x.body(8), BAD);
        due.due("bodies", x.count(4), 50);
        due.due("the last acts: x + 49", x.act(49, 0, 1), 1 + 49 + 3);
    }

    /** Eight bodies, the kinds in their order, behind so many others that their numbers are from first on. */
    private static HotStack bodies(int first) {
        HotStack x = new HotStack();
        for (int i = 0; i < first; i++) {
            x.body(0);
        }
        for (int kind = 0; kind < 8; kind++) {
            x.body(kind);
        }
        return x;
    }

    private static void act() {
        due.promise(35);
        HotStack x = bodies(0);
        // By kind (its number, too): reads, heats, opens, tells of 5.
        int[][] want = {
            {5, 10, 5, 9},
            {9, 18, 4, 18},
            {7, -14, 7, -17},
            {8, -18, 18, -24},
            {12, 24, 1, 22},
            {10, -22, -7, 0},
            {22, 44, 3, 37},
            {23, 51, 2, 45},
        };
        // FORK: tells is heats(5), -22, less opens(1), (1 ^ 5) * 3 - (2 + 5) = 5, and 1 more.
        want[5][3] = -22 - 5 + 1;
        for (int kind = 0; kind < 8; kind++) {
            for (int act = 0; act < 4; act++) {
                due.due("act(" + kind + ", " + act + ", 5)", x.act(kind, act, 5), want[kind][act]);
            }
        }
        HotStack y = bodies(40);
        due.due("ROD 40 opens", y.act(40, 2, 7), 7 ^ 40);
        due.due("HAND 41 reads", y.act(41, 0, -50), -6);
        due.due("ints wrap", y.act(46, 0, Integer.MAX_VALUE), (Integer.MAX_VALUE + 46) * 2);
        due.due("ints wrap", y.act(43, 1, Integer.MAX_VALUE), -((Integer.MIN_VALUE + 43) * 2));
        due.due("body 48", y.act(48, 0, 1), 0);
        due.due("no trace", y.count(5), 0);
        due.due("no trace", y.trace(0), BAD);
        y.act(40, 1, 1);
        due.due("body -1", y.act(-1, 0, 1), 0);
        due.due("no trace", y.count(5), 0);
        y.act(40, 1, 1);
        due.due("act 4", y.act(40, 4, 1), 0);
        due.due("no trace", y.count(5), 0);
        y.act(40, 1, 1);
        due.due("act -1", y.act(40, -1, 1), 0);
        due.due("no trace", y.count(5), 0);
    }

    private static void traced(HotStack x, int body, int act, int... want) {
        x.act(body, act, 3);
        due.due("bodies that ran: " + body + ", " + act, x.count(5), want.length);
        for (int i = 0; i < want.length; i++) {
            due.due("trace " + i, x.trace(i), want[i]);
        }
        due.due("trace -1", x.trace(-1), BAD);
        due.due("trace behind the last", x.trace(want.length), BAD);
        due.due("trace 24", x.trace(24), BAD);
    }

    private static void trace() {
        due.promise(36);
        HotStack x = bodies(3);
        due.due("none yet", x.trace(0), BAD);
        traced(x, 3, 0, 1);
        traced(x, 3, 1, 10, 1);
        traced(x, 3, 2, 11);
        traced(x, 3, 3, 2, 10, 1, 11);
        traced(x, 4, 0, 20, 1);
        traced(x, 4, 3, 2, 10, 20, 1, 11);
        traced(x, 5, 1, 30, 10, 1);
        traced(x, 5, 3, 2, 30, 10, 1, 11);
        traced(x, 6, 1, 41, 30, 10, 1);
        traced(x, 6, 2, 40, 11);
        traced(x, 6, 3, 2, 41, 30, 10, 1, 40, 11);
        traced(x, 7, 0, 20, 1);
        traced(x, 7, 3, 50, 2, 10, 20, 1, 11);
        traced(x, 8, 1, 41, 30, 10, 1);
        traced(x, 8, 2, 60, 40, 11, 1);
        traced(x, 8, 3, 61, 2, 41, 30, 10, 1, 60, 40, 11, 1);
        traced(x, 9, 0, 70, 1);
        traced(x, 9, 3, 2, 10, 70, 1, 11);
        traced(x, 10, 0, 81, 70, 1);
        traced(x, 10, 1, 80, 10, 81, 70, 1, 11);
        traced(x, 10, 3, 2, 80, 10, 81, 70, 1, 11, 11);
        due.due("kept", x.act(99, 0, 0), 0);
        due.due("no trace then", x.trace(0), BAD);
    }

    private static void keep() {
        due.promise(37);
        HotStack x = new HotStack();
        due.due("no body yet", x.keep(0, 0), BAD);
        x.body(4);
        due.due("shelf -1", x.keep(-1, 0), BAD);
        due.due("shelf 6", x.keep(6, 0), BAD);
        due.due("body -2", x.keep(0, -2), BAD);
        due.due("body 1", x.keep(0, 1), BAD);
        due.due("nothing", x.keep(0, -1), 1);
        due.due("nothing is there", x.taken(0, 0), -11);
        due.due("body 0", x.keep(0, 0), 1);
        due.due("it is there", x.taken(0, 0), 4);
        due.due("a row instead", x.row(0, 0, 1), 1);
        due.due("a body instead", x.keep(0, 0), 1);
        due.due("no row any more", x.put(0, 0, 1), -12);
        due.due("no element any more", x.element(0, 0), Long.MIN_VALUE);
        due.due("BAD", x.keep(0, 9), BAD);
        due.due("changes nothing", x.taken(0, 4), 4);
        due.due("nothing again", x.keep(0, -1), 1);
        due.due("is there", x.put(0, 0, 1), -11);
    }

    private static void row() {
        due.promise(38);
        HotStack x = new HotStack();
        due.due("shelf -1", x.row(-1, 0, 1), BAD);
        due.due("shelf 6", x.row(6, 0, 1), BAD);
        due.due("sort -1", x.row(0, -1, 1), BAD);
        due.due("sort 5", x.row(0, 5, 1), BAD);
        due.due("n 61", x.row(0, 0, 61), BAD);
        due.due("n -1", x.row(0, 0, -1), -14);
        due.due("n least", x.row(0, 0, Integer.MIN_VALUE), -14);
        due.due("sort 5 and n -1", x.row(0, 5, -1), BAD);
        due.due("shelf 6 and n -1", x.row(6, 0, -1), BAD);
        due.due("n most", x.row(0, 0, Integer.MAX_VALUE), BAD);
        due.due("nothing came", x.put(0, 0, 1), -11);
        for (int sort = 0; sort <= 4; sort++) {
            due.due("row", x.row(sort, sort, 60), 1);
            due.due("0 at first", x.element(sort, 59), 0);
            due.due("60 elements", x.put(sort, 60, 1), -13);
            due.due("an empty row", x.row(5, sort, 0), 1);
            due.due("no elements", x.put(5, 0, 1), -13);
        }
        x.put(0, 5, 7);
        due.due("n -1", x.row(0, 0, -1), -14);
        due.due("changes nothing", x.element(0, 5), 7);
        x.row(0, 0, 60);
        due.due("0 at first, again", x.element(0, 5), 0);
    }

    private static void put() {
        due.promise(39);
        HotStack x = new HotStack();
        long[] told = {0, 1, -1, 127, 128, 255, 256, 300, -129, 32767, 32768, 65536, -32769, 2147483647L, 2147483648L,
            4294967296L, -2147483649L, Long.MAX_VALUE, Long.MIN_VALUE};
        for (int sort = 0; sort <= 4; sort++) {
            x.row(0, sort, 3);
            for (long v : told) {
                long want = sort == 0 ? (byte) v : sort == 1 ? (short) v : sort == 2 ? (int) v : v;
                due.due("put", x.put(0, 2, v), 1);
                due.due("sort " + sort + ", " + v, x.element(0, 2), sort == 4 ? v == 0 ? 0 : 1 : want);
                due.due("others stay", x.element(0, 1), 0);
            }
        }
        due.due("shelf -1", x.put(-1, 0, 0), BAD);
        due.due("shelf 6", x.put(6, 0, 0), BAD);
        due.due("nothing", x.put(1, 99, 0), -11);
        x.body(0);
        x.keep(1, 0);
        due.due("a body", x.put(1, 99, 0), -12);
        due.due("place -1", x.put(0, -1, 0), -13);
        due.due("place 3", x.put(0, 3, 0), -13);
        due.due("place least", x.put(0, Integer.MIN_VALUE, 0), -13);
        due.due("place most", x.put(0, Integer.MAX_VALUE, 0), -13);
    }

    private static void element() {
        due.promise(40);
        HotStack x = new HotStack();
        due.due("shelf -1", x.element(-1, 0), Long.MIN_VALUE);
        due.due("shelf 6", x.element(6, 0), Long.MIN_VALUE);
        due.due("nothing", x.element(0, 0), Long.MIN_VALUE);
        due.due("nothing, place -1", x.element(0, -1), Long.MIN_VALUE);
        x.body(0);
        x.keep(0, 0);
        due.due("a body", x.element(0, 0), Long.MIN_VALUE);
        due.due("a body, place -1", x.element(0, -1), Long.MIN_VALUE);
        Due.fill(x, 0, 3, 5, -6, Long.MIN_VALUE);
        due.due("0", x.element(0, 0), 5);
        due.due("1", x.element(0, 1), -6);
        due.due("2", x.element(0, 2), Long.MIN_VALUE);
        due.due("place -1", x.element(0, -1), Long.MIN_VALUE);
        due.due("place 3", x.element(0, 3), Long.MIN_VALUE);
        due.due("place least", x.element(0, Integer.MIN_VALUE), Long.MIN_VALUE);
        due.due("place most", x.element(0, Integer.MAX_VALUE), Long.MIN_VALUE);
        Due.fill(x, 0, 3, 7);
        due.due("beyond a shorter row", x.element(0, 1), Long.MIN_VALUE);
    }

    private static void rowIs(HotStack x, int shelf, long... want) {
        for (int i = 0; i < want.length; i++) {
            due.due("element " + i, x.element(shelf, i), want[i]);
        }
        due.due("no more", x.element(shelf, want.length), Long.MIN_VALUE);
    }

    private static void shift() {
        due.promise(41);
        HotStack x = new HotStack();
        Due.fill(x, 0, 2, 1, 2, 3, 4, 5);
        Due.fill(x, 1, 2, 9, 9, 9);
        due.due("3 to another", x.shift(0, 1, 1, 0, 3), 3);
        rowIs(x, 1, 2, 3, 4);
        rowIs(x, 0, 1, 2, 3, 4, 5);
        due.due("upwards", x.shift(0, 0, 0, 1, 4), 4);
        rowIs(x, 0, 1, 1, 2, 3, 4);
        due.due("downwards", x.shift(0, 2, 0, 0, 3), 3);
        rowIs(x, 0, 2, 3, 4, 3, 4);
        due.due("none", x.shift(0, 5, 1, 3, 0), 0);
        due.due("none, i above", x.shift(0, 6, 1, 3, 0), -13);
        due.due("none, j above", x.shift(0, 5, 1, 4, 0), -13);
        due.due("i -1", x.shift(0, -1, 1, 0, 1), -13);
        due.due("j -1", x.shift(0, 0, 1, -1, 1), -13);
        due.due("n -1", x.shift(0, 0, 1, 0, -1), -13);
        due.due("n above i's", x.shift(0, 4, 1, 0, 2), -13);
        due.due("n above j's", x.shift(0, 0, 1, 1, 3), -13);
        due.due("n most", x.shift(0, 1, 1, 1, Integer.MAX_VALUE), -13);
        due.due("i most", x.shift(0, Integer.MAX_VALUE, 1, 1, 1), -13);
        due.due("j most", x.shift(0, 1, 1, Integer.MAX_VALUE, Integer.MAX_VALUE), -13);
        due.due("n least", x.shift(0, 1, 1, 1, Integer.MIN_VALUE), -13);
        rowIs(x, 0, 2, 3, 4, 3, 4);
        rowIs(x, 1, 2, 3, 4);
        due.due("shelf -1", x.shift(-1, 0, 0, 0, 1), BAD);
        due.due("shelf 6", x.shift(6, 0, 0, 0, 1), BAD);
        due.due("other -1", x.shift(0, 0, -1, 0, 1), BAD);
        due.due("other 6", x.shift(2, 0, 6, 0, 1), BAD);
        due.due("nothing here", x.shift(2, 9, 0, 0, 1), -11);
        due.due("nothing there", x.shift(0, 9, 2, 0, 1), -11);
        x.body(0);
        x.keep(3, 0);
        due.due("nothing and a body", x.shift(3, 0, 2, 0, 1), -11);
        due.due("a body", x.shift(3, 9, 0, 0, 1), -12);
        due.due("to a body", x.shift(0, 9, 3, 0, 1), -12);
        due.due("a body to itself", x.shift(3, 0, 3, 0, 0), -12);
        x.row(3, 2, 4);
        x.keep(3, 0);
        due.due("to a body where a row was", x.shift(0, 0, 3, 0, 1), -12);
        due.due("from a body where a row was", x.shift(3, 0, 0, 0, 1), -12);
        x.row(4, 3, 5);
        due.due("unlike sorts", x.shift(0, 9, 4, 0, 1), -12);
        Due.fill(x, 5, 4, 1, 0, 1);
        due.due("booleans", x.shift(5, 0, 5, 1, 2), 2);
        rowIs(x, 5, 1, 1, 0);
    }

    private static void taken() {
        due.promise(42);
        HotStack x = bodies(0);
        int[] above = {-1, 0, 0, 2, 1, 3, 0, 6};
        for (int kind = 0; kind < 8; kind++) {
            x.keep(1, kind);
            boolean[] under = new boolean[8];
            for (int k = kind; k >= 0; k = above[k]) {
                under[k] = true;
            }
            for (int k = 0; k < 8; k++) {
                due.due("a " + kind + " taken for a " + k, x.taken(1, k), under[k] ? kind : -12);
            }
            due.due("kind -1", x.taken(1, -1), BAD);
            due.due("kind 8", x.taken(1, 8), BAD);
        }
        due.due("shelf -1", x.taken(-1, 0), BAD);
        due.due("shelf 6", x.taken(6, 0), BAD);
        due.due("nothing", x.taken(2, 0), -11);
        due.due("nothing, kind 8", x.taken(2, 8), BAD);
        x.row(2, 0, 3);
        due.due("a row", x.taken(2, 0), -12);
    }

    private static void count() {
        due.promise(43);
        HotStack x = Due.stack(null, 0, 110, 120);
        due.due("cells", x.count(0), 3);
        due.due("none GLOWS", x.count(1), 0);
        x.mend(5, 1, 90);
        x.mend(6, 1, 89);
        due.due("one GLOWS", x.count(1), 1);
        x.mend(0, 6, 89);
        due.due("two GLOW", x.count(1), 2);
        x.feed('d');
        x.feed(' ');
        due.due("tape", x.count(2), 2);
        x.law();
        due.due("tape behind a fault", x.count(2), 0);
        due.due("changes", x.count(3), 3);
        x.undo();
        due.due("changes", x.count(3), 2);
        x.redo();
        due.due("changes", x.count(3), 3);
        x.body(0);
        due.due("bodies", x.count(4), 1);
        due.due("ran", x.count(5), 0);
        x.act(0, 3, 0);
        due.due("ran", x.count(5), 4);
        due.due("-1", x.count(-1), BAD);
        due.due("6", x.count(6), BAD);
    }
}
