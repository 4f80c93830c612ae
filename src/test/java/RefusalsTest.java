/**
 * Where several refusals would do, the one named first is answered; and what is refused changes nothing. The stack is
 * that of Due.withAll() (COLUMN 0 is full, SHELF 0 holds nothing, 1 a BODY of KIND 4, 2 a ROW of 4 bytes, 3 one of 3
 * ints, 4 one of 2 booleans, 5 one of no bytes), an empty one, or a full one.
 */
public final class RefusalsTest {
    private static final int BAD = -1, NOT = -2, FULL = -3, STATE = -5, VOID = -2000000000;
    private static final int[] NUMBERS = {-1, 6, 256, -256, 65536, Integer.MAX_VALUE, Integer.MIN_VALUE};
    private static final Due due = new Due();

    public static void main(String[] args) {
        loads();
        emptyStack();
        unlikeRows();
        laying();
        books();
        acts();
        shelves();
        shifts();
        due.finish("RefusalsTest");
    }

    private static void loads() {
        due.promise(2);
        HotStack x = Due.withAll();
        due.due("a full COLUMN, a wrong load", x.cart(0, 100), BAD);
        due.due("a full COLUMN", x.cart(0, 99), FULL);
        due.promise(3);
        for (int wrong : new int[] {0, -1, 21}) {
            due.due("a BODY, wrong n", x.loads(1, 0, wrong), BAD);
            due.due("ints, wrong n, wrong place", x.loads(3, -1, wrong), BAD);
            due.due("nothing, wrong n", x.loads(0, 0, wrong), BAD);
        }
        due.due("ints, wrong place", x.loads(3, 99, 1), -12);
        due.due("nothing is there, wrong place", x.loads(0, -1, 1), 0);
        due.due("a full COLUMN, so no load came", x.loads(fullLoad(x), 0, 1), 0);
        due.promise(6);
        HotStack y = new HotStack();
        for (int i = 0; i < 120; i++) {
            y.feed('(');
        }
        due.due("a full tape, no byte", y.feed(256), BAD);
        due.due("a full tape, no byte", y.feed(-1), BAD);
        due.due("a full tape", y.feed('('), FULL);
        due.due("bytes", y.count(2), 120);
        due.due("the 7th ( is the first with which no text goes on", y.law(), -106);
    }

    /** SHELF 5 with a load for COLUMN 0, which is full. */
    private static int fullLoad(HotStack x) {
        Due.bytes(x, 5, 0, 9, 9);
        return 5;
    }

    /** NOT would do, as no CELL is there, but a number is wrong. */
    private static void emptyStack() {
        HotStack x = new HotStack();
        due.promise(10);
        due.due("n", x.stack(41, 1), BAD);
        due.due("n", x.stack(-1, 0), BAD);
        due.promise(11);
        due.due("cell, HEAT", x.first(-1, 100), BAD);
        due.due("cell", x.first(0, 0), BAD);
        due.due("cell -2", x.first(-2, 0), BAD);
        due.due("none", x.first(-1, 0), NOT);
        for (int wrong : new int[] {-1, 21}) {
            due.promise(14);
            due.due("n", x.turn(0, wrong, 0), BAD);
            due.promise(15);
            due.due("n", x.chimney(wrong, 1), BAD);
        }
        for (int wrong : new int[] {-1, 2}) {
            due.promise(14);
            due.due("what", x.turn(0, 0, wrong), BAD);
            due.promise(15);
            due.due("what", x.chimney(0, wrong), BAD);
            due.promise(23);
            due.due("what", x.byTurns(10, wrong), BAD);
        }
        due.promise(14);
        due.due("k", x.turn(4, 0, 0), BAD);
        due.due("none", x.turn(3, 20, 1), NOT);
        due.promise(23);
        for (int wrong : new int[] {-1, 0, 9, 40, -10, 110}) {
            due.due("nt", x.byTurns(wrong, 0), BAD);
        }
        due.due("none", x.byTurns(39, 1), NOT);
        due.promise(29);
        due.due("what", x.led(6), BAD);
        due.due("none read", x.led(5), NOT);
        due.promise(31);
        due.due("no image", x.back(), STATE);
    }

    private static void unlikeRows() {
        due.promise(12);
        HotStack x = new HotStack();
        for (int column = 0; column < 6; column++) {
            for (int layer = 0; layer < 5; layer++) {
                x.cart(column, 0);
            }
        }
        due.due("more than 4 rods", x.rods(20), NOT);
        due.due("no such HEAT", x.rods(100), BAD);
        due.promise(13);
        due.due("more than 4 rods", x.rodsAt(0), NOT);
        due.due("no such HEAT", x.rodsAt(-1), Long.MIN_VALUE);
        due.promise(15);
        for (int column = 0; column < 6; column++) {
            x.mend(column, 5, 1);
        }
        due.due("all have one, no such n", x.chimney(21, 0), BAD);
        due.due("all have one", x.chimney(20, 0), NOT);
        due.promise(17);
        Due.bytes(x, 0, 1, 2);
        due.due("COLUMNS are full, no such n", x.lay(0, 9, -1), BAD);
        due.due("COLUMNS are full, no such k", x.lay(0, 0, -2), BAD);
        due.due("COLUMNS are full", x.lay(0, 0, -1), NOT);
        Due.fill(x, 1, 1, 1, 2);
        due.due("COLUMNS are full, no bytes", x.lay(1, 0, -1), -12);
        due.due("COLUMNS are full, nothing there", x.lay(2, 0, -1), -11);
    }

    private static void laying() {
        due.promise(17);
        HotStack x = Due.withAll();
        for (int wrong : NUMBERS) {
            due.due("no such SHELF", x.lay(wrong, 0, 6), BAD);
            due.due("nothing, no such n", x.lay(0, wrong == 6 ? 9 : wrong, -1), BAD);
        }
        due.due("nothing, no such k", x.lay(0, 0, -2), BAD);
        due.due("a BODY, no such k", x.lay(1, 0, -3), BAD);
        for (int k : new int[] {6, 60, Integer.MAX_VALUE}) {
            due.due("nothing, not as many", x.lay(0, 0, k), -11);
            due.due("a BODY, not as many", x.lay(1, 0, k), -12);
            due.due("ints, not as many", x.lay(3, 0, k), -12);
            due.due("no loads, not as many", x.lay(5, 0, k), NOT);
        }
        due.isAsWithAll(x);
        due.promise(19);
        due.due("n and c", x.sell(41, 100, 2), VOID);
    }

    private static void books() {
        HotStack x = Due.withAll();
        for (int wrong : NUMBERS) {
            due.promise(21);
            due.due("no such SHELF, no CELL", x.judge(wrong, 9), BAD);
            due.due("no such SHELF", x.judge(wrong, 5), BAD);
            due.promise(22);
            due.due("no such SHELF", x.book(wrong, 505, 0), BAD);
            due.due("nothing, no such what", x.book(0, 505, wrong == 6 ? 3 : wrong), BAD);
        }
        due.promise(21);
        due.due("nothing, no CELL", x.judge(0, 9), BAD);
        due.due("ints, no CELL", x.judge(3, 30), BAD);
        due.due("nothing", x.judge(0, 5), -11);
        due.due("a BODY", x.judge(1, 5), -12);
        due.due("ints", x.judge(3, 5), -12);
        due.due("no day is not so", x.judge(5, 5), NOT);
        due.promise(22);
        due.due("nothing, no CELL of a rod", x.book(0, 905, 0), BAD);
        due.due("a BODY, no told CELL", x.book(1, 509, 0), BAD);
        due.due("nothing", x.book(0, 505, 1), -11);
        due.due("a BODY", x.book(1, 505, 1), -12);
        due.due("booleans", x.book(4, 505, 1), -12);
        due.isAsWithAll(x);
    }

    private static void acts() {
        due.promise(34);
        HotStack x = new HotStack();
        for (int i = 0; i < 50; i++) {
            x.body(i % 8);
        }
        due.due("all are kept, no such KIND", x.body(8), BAD);
        due.due("all are kept", x.body(7), FULL);
        due.promise(36);
        due.due("none ran", x.trace(0), BAD);
        due.promise(35);
        due.due("no such BODY", x.act(50, 0, 9), 0);
        due.due("no such ACT", x.act(49, 4, 9), 0);
        due.due("none ran", x.count(5), 0);
    }

    private static void shelves() {
        HotStack x = Due.withAll();
        for (int wrong : NUMBERS) {
            due.promise(38);
            due.due("no such SHELF, a size below 0", x.row(wrong, 0, -1), BAD);
            due.promise(37);
            due.due("no such SHELF, nothing", x.keep(wrong, -1), BAD);
            due.promise(39);
            due.due("no such SHELF, no place", x.put(wrong, -1, 1), BAD);
            due.promise(40);
            due.due("no such SHELF, no place", x.element(wrong, -1), Long.MIN_VALUE);
            due.promise(42);
            due.due("no such SHELF", x.taken(wrong, 0), BAD);
        }
        due.promise(38);
        due.due("no such sort, a size below 0", x.row(2, 5, -1), BAD);
        due.due("no such sort, a size below 0", x.row(2, -1, Integer.MIN_VALUE), BAD);
        due.due("a size below 0", x.row(2, 4, Integer.MIN_VALUE), -14);
        due.promise(39);
        due.due("nothing, no place", x.put(0, -1, 1), -11);
        due.due("a BODY, no place", x.put(1, 60, 1), -12);
        due.due("no place", x.put(5, 0, 1), -13);
        due.promise(40);
        due.due("nothing, no place", x.element(0, -1), Long.MIN_VALUE);
        due.due("a BODY", x.element(1, 0), Long.MIN_VALUE);
        due.due("no place", x.element(2, 4), Long.MIN_VALUE);
        due.promise(42);
        due.due("nothing, no such KIND", x.taken(0, 8), BAD);
        due.due("a ROW, no such KIND", x.taken(2, -1), BAD);
        due.due("nothing", x.taken(0, 0), -11);
        due.due("a ROW", x.taken(2, 0), -12);
        due.due("another KIND", x.taken(1, 2), -12);
        due.isAsWithAll(x);
    }

    private static void shifts() {
        due.promise(41);
        HotStack x = Due.withAll();
        for (int wrong : NUMBERS) {
            due.due("nothing, and no such SHELF", x.shift(0, 0, wrong, 0, -1), BAD);
            due.due("no such SHELF, and nothing", x.shift(wrong, 0, 0, 0, -1), BAD);
        }
        due.due("nothing, a BODY", x.shift(0, 0, 1, 0, -1), -11);
        due.due("a BODY, nothing", x.shift(1, 0, 0, 0, -1), -11);
        due.due("nothing, a ROW", x.shift(0, 9, 2, 9, 9), -11);
        due.due("a BODY, a ROW, no places", x.shift(1, 9, 2, 9, 9), -12);
        due.due("a ROW, a BODY, no places", x.shift(2, 9, 1, 9, 9), -12);
        due.due("unlike sorts, n below 0", x.shift(2, 0, 3, 0, -1), -12);
        due.due("unlike sorts, no places", x.shift(4, 9, 3, 9, 9), -12);
        due.due("n below 0, no places", x.shift(2, -1, 5, 9, -1), -13);
        due.due("more than there are", x.shift(2, 0, 2, 1, 4), -13);
        due.due("none, but beyond what is there", x.shift(2, 5, 5, 0, 0), -13);
        due.due("places that wrap", x.shift(2, Integer.MAX_VALUE, 2, 0, Integer.MAX_VALUE), -13);
        due.due("places that wrap", x.shift(2, 1, 2, Integer.MIN_VALUE, Integer.MAX_VALUE), -13);
        due.due("none behind the last", x.shift(2, 4, 5, 0, 0), 0);
        due.isAsWithAll(x);
    }
}
