/** The sentences of promises 17 to 24, and of what is said of them ahead, that name a boundary: a method for each. */
public final class LayingEdgesTest {
    private static final int BAD = -1, NOT = -2, VOID = -2000000000;
    private static final Due due = new Due();

    public static void main(String[] args) {
        due.sentencesOf(LayingEdgesTest.class, 17, 24);
        due.finish("LayingEdgesTest");
    }

    /** A lone CELL 0 of a DAMP, HEAT and GOOD. */
    private static HotStack alone(String law, int damp, int heat, int good) {
        HotStack x = Due.stack(law, 10 * damp);
        x.mend(0, 1, heat);
        x.mend(0, 2, good);
        return x;
    }

    /** Asks for the shelf 0, of what and of each COLUMN that has a place, and of one more. */
    private static void lays(HotStack x, int n, int that, int... places) {
        due.due("that", x.lay(0, n, -1), that);
        for (int k = 0; k < places.length; k++) {
            due.due("place of COLUMN " + k, x.lay(0, n, k), places[k]);
        }
        due.due("no COLUMN " + places.length, x.lay(0, n, places.length), NOT);
    }

    // ---- promise 17: lay

    static void layShelves() {
        due.sentence(17, "SHELVES 0 .. 5");
        HotStack x = new HotStack();
        for (int shelf : Due.beyond(0, 5)) {
            due.due("shelf " + shelf, x.lay(shelf, 0, -1), BAD);
        }
        Due.bytes(x, 5, 3);
        due.due("the last shelf", x.lay(5, 0, 0), 0);
    }

    static void layDamps() {
        due.sentence(17, "loads of told DAMP (a ROW of bytes on a SHELF: 0 .. 9;");
        HotStack x = Due.stack("d", 0);
        Due.bytes(x, 0, 0, 9);
        lays(x, 1, 29, 0, 1);
        Due.bytes(x, 0, 9, 0);
        lays(x, 1, 29, 0, 1);
        for (int none : new int[] {-1, 10, 11, 100, 127, -128, -9}) {
            Due.bytes(x, 0, 5, none, 9);
            lays(x, 1, 25, 0);
        }
    }

    static void laySixAtMost() {
        due.sentence(17, "6 at most;");
        // In COLUMN 0 a load comes upon another and heats twice.
        HotStack x = Due.stack("l?d*2;d", 0);
        Due.bytes(x, 0, 5, 4, 4, 4, 4, 4, 0);
        lays(x, 1, 28, 1, 0, 2, 3, 4, 5);
        Due.bytes(x, 0, 5, 4, 4, 4, 4, 0);
        lays(x, 1, 25, 5, 0, 1, 2, 3, 4);
        x.row(0, 0, 60);
        lays(x, 8, 20, 0, 1, 2, 3, 4, 5);
    }

    static void layEnds() {
        due.sentence(17, "it ends with what is none");
        HotStack x = Due.stack("d", 0);
        Due.bytes(x, 0, 1, 2, 10, 3);
        lays(x, 1, 22, 0, 1);
        Due.bytes(x, 0, -1, 3);
        lays(x, 1, 20);
        Due.bytes(x, 0);
        lays(x, 1, 20);
        Due.bytes(x, 0, 1, 2, 3, 4, 5, -1);
        lays(x, 1, 25, 0, 1, 2, 3, 4);
    }

    static void layDays() {
        due.sentence(17, "the hottest is least hot behind n (0 .. 8) days");
        HotStack x = new HotStack();
        Due.tell(x, "d");
        Due.bytes(x, 0, 2);
        for (int n : Due.beyond(0, 8)) {
            due.due("n " + n, x.lay(0, n, -1), BAD);
            due.due("n " + n, x.lay(0, n, 0), BAD);
            due.due("n " + n + " of nothing", x.lay(1, n, 0), BAD);
        }
        due.due("behind 0", x.lay(0, 0, -1), 20);
        due.due("behind 1", x.lay(0, 1, -1), 22);
        due.due("behind 8", x.lay(0, 8, -1), 36);
    }

    static void layFirstOfLikeOrders() {
        due.sentence(17, "(of like orders the first by places, COLUMN by COLUMN)");
        HotStack x = Due.stack("d", 0);
        Due.bytes(x, 0, 9, 0, 5, 3);
        lays(x, 1, 29, 0, 1, 2, 3);
        HotStack y = Due.stack("l?d*2;d", 0);
        Due.bytes(y, 0, 3, 3, 3);
        lays(y, 1, 26, 0, 1, 2);
        Due.bytes(y, 0, 5, 1, 2, 1);
        lays(y, 1, 25, 1, 0, 2, 3);
        Due.bytes(y, 0, 9, 5, 4, 3);
        lays(y, 1, 29, 2, 0, 1, 3);
        HotStack z = Due.stack("d", 0, 100);
        z.mend(0, 1, 99);
        Due.bytes(z, 0, 9, 8, 7);
        lays(z, 3, 99, 0, 1, 2);
    }

    static void layInAnyOrder() {
        due.sentence(17, "are carted, one onto each of COLUMNS 0, 1 .. in an order");
        // Upon each COLUMN a load must be drier than upon the one ahead: they fit in no order but the very last.
        HotStack x = Due.stack("a>3?d*9;l=4?(d>1)*9;l=3?(d>3)*9;l=2?(d>5)*9;l=1?(d>7)*9;0");
        for (int column = 1; column <= 5; column++) {
            for (int layer = 0; layer < column && layer < 4; layer++) {
                x.cart(column, 0);
            }
        }
        x.mend(5, 5, 1);
        Due.bytes(x, 0, 0, 1, 3, 5, 7, 9);
        lays(x, 1, 20, 5, 4, 3, 2, 1, 0);
        Due.bytes(x, 0, 9, 7, 5, 3, 1, 0);
        lays(x, 1, 20, 0, 1, 2, 3, 4, 5);
        Due.bytes(x, 0, 7, 9, 5, 3, 0, 1);
        lays(x, 1, 20, 1, 0, 2, 3, 5, 4);
    }

    static void layFull() {
        due.sentence(17, "NOT: one of these COLUMNS is full");
        HotStack x = Due.stack("d", 100, 100, 100, 100, 100);
        Due.bytes(x, 0, 1);
        lays(x, 1, 21, 0);
        Due.bytes(x, 0, 1, 1);
        lays(x, 1, NOT);
        due.due("COLUMN 0", x.lay(0, 1, 0), NOT);
        due.due("COLUMN 1", x.lay(0, 1, 1), NOT);
        HotStack y = Due.stack("d", 500, 500, 500, 500);
        Due.bytes(y, 0, 1, 1, 1, 1, 1, 3);
        lays(y, 1, 23, 0, 1, 2, 3, 4, 5);
        y.cart(5, 0);
        lays(y, 1, NOT);
        y.put(0, 5, 10);
        lays(y, 1, 21, 0, 1, 2, 3, 4);
    }

    static void layNoCells() {
        due.sentence(17, "or no CELLS are there then");
        HotStack x = new HotStack();
        Due.bytes(x, 0);
        lays(x, 0, NOT);
        Due.bytes(x, 0, 10, 1);
        lays(x, 8, NOT);
        Due.bytes(x, 0, 0, 1);
        lays(x, 0, 20, 0, 1);
        HotStack y = Due.stack("-20", 0);
        Due.bytes(y, 0, 1);
        lays(y, 1, 0, 0);
    }

    static void layAsByCart() {
        due.sentence(17, "LAY: loads come as by cart.");
        HotStack x = new HotStack();
        Due.tell(x, "s*9+h-20+d");
        x.image();
        x.cart(0, 0);
        x.mend(0, 1, 60);
        x.mend(0, 3, 1);
        x.back();
        x.salt(0);
        Due.bytes(x, 0, 3);
        due.due("HEAT 20, not salted", x.lay(0, 1, -1), 23);
    }

    static void layNotAsMany() {
        due.sentence(17, "LAY: that (k -1), the k-th COLUMN's place (NOT: there are not as many)");
        HotStack x = Due.stack("l?d*2;d", 0);
        Due.bytes(x, 0, 5, 3, 4);
        int[] want = {26, 1, 0, 2};
        for (int k = -1; k <= 2; k++) {
            due.due("k " + k, x.lay(0, 1, k), want[k + 1]);
        }
        for (int k : new int[] {3, 4, 5, 6, 7, 30, 256, 65536, 65537, Integer.MAX_VALUE}) {
            due.due("k " + k, x.lay(0, 1, k), NOT);
            due.due("k " + k + " of nothing", x.lay(1, 1, k), -11);
        }
        for (int k : new int[] {-2, -3, -256, -65537, Integer.MIN_VALUE, Integer.MIN_VALUE + 2}) {
            due.due("k " + k, x.lay(0, 1, k), BAD);
            due.due("k " + k + " of nothing", x.lay(1, 1, k), BAD);
        }
    }

    static void layRefusals() {
        due.sentence(17, "BAD, -11, -12 (no ROW of bytes); NOT.");
        HotStack x = new HotStack();
        due.due("nothing", x.lay(0, 0, -1), -11);
        due.due("nothing, no such place", x.lay(0, 0, 99), -11);
        due.due("nothing, n 9", x.lay(0, 9, -1), BAD);
        x.body(0);
        x.keep(0, 0);
        due.due("a body", x.lay(0, 0, -1), -12);
        due.due("a body, no such place", x.lay(0, 0, 99), -12);
        due.due("a body, k -2", x.lay(0, 0, -2), BAD);
        for (int sort = 1; sort <= 4; sort++) {
            x.row(0, sort, 2);
            due.due("sort " + sort, x.lay(0, 0, -1), -12);
            due.due("sort " + sort + ", n 9", x.lay(0, 9, -1), BAD);
            x.row(0, sort, 0);
            due.due("an empty row of sort " + sort, x.lay(0, 0, 0), -12);
        }
        x.row(0, 0, 0);
        due.due("bytes, none", x.lay(0, 0, -1), NOT);
    }

    static void layAltersNothing() {
        due.sentence(17, "What is answered so changes nothing.");
        HotStack x = Due.withAll();
        x.lay(2, 8, -1);
        x.lay(2, 8, 1);
        x.lay(2, 9, 1);
        x.lay(0, 8, 1);
        x.lay(1, 8, 1);
        x.lay(5, 0, 0);
        x.worth();
        x.sell(40, 1, 0);
        x.sell(41, 1, 0);
        x.whose();
        x.judge(2, 5);
        x.judge(2, 9);
        x.judge(1, 5);
        x.book(2, 505, 0);
        x.book(2, 506, 2);
        x.book(3, 505, 2);
        x.book(2, 509, 2);
        x.byTurns(39, 0);
        x.byTurns(40, 0);
        x.drawn(7, 303012, 1);
        x.drawn(7, 313012, 1);
        due.isAsWithAll(x);
    }

    // ---- promise 18: worth

    static void worthCut() {
        due.sentence(18, "WORTH of all: GOOD by 9 of each CELL (cut)");
        HotStack x = new HotStack();
        due.due("no cells", x.worth(), 0);
        int[] goods = {0, 8, 9, 17, 18, 98, 99};
        int[] want = {0, 0, 1, 1, 2, 10, 11};
        x.cart(0, 0);
        for (int i = 0; i < goods.length; i++) {
            x.mend(0, 2, goods[i]);
            due.due("GOOD " + goods[i], x.worth(), want[i]);
        }
        x.cart(1, 0);
        x.mend(0, 2, 98);
        x.mend(5, 2, 98);
        due.due("each is cut: 10 and 10", x.worth(), 20);
        HotStack y = new HotStack();
        for (int i = 0; i < 30; i++) {
            y.cart(i / 5, 0);
        }
        due.due("30 of 11", y.worth(), 330);
    }

    static void worthOfCellsThatAreThere() {
        due.sentence(18, "it is there, if the LAYER is below HIGH");
        HotStack x = Due.stack(null, 0);
        Due.hide(x, 1, 50, 90);
        due.due("one of 99 by 9", x.worth(), 11);
        x.cart(0, 0);
        due.due("two", x.worth(), 22);
    }

    static void worthGlows() {
        due.sentence(18, "0 of one that GLOWS");
        HotStack x = alone(null, 0, 89, 99);
        due.due("89", x.worth(), 11);
        x.mend(0, 1, 90);
        due.due("90", x.worth(), 0);
        x.mend(0, 1, 99);
        due.due("99", x.worth(), 0);
        x.mend(0, 6, 99);
        due.due("99 of 99", x.worth(), 0);
        x.mend(0, 1, 98);
        due.due("98 of 99", x.worth(), 11);
        x.mend(0, 6, 30);
        x.mend(0, 1, 30);
        due.due("30 of 30", x.worth(), 0);
        x.mend(0, 1, 29);
        due.due("29 of 30", x.worth(), 11);
    }

    // ---- promise 19: sell

    static void sellDays() {
        due.sentence(19, "SELL: the day (0 .. n, 40 at most, from now)");
        // 29 behind the 40th day, till then it GLOWS; of GOOD 9 times 3 and 20 times 2 are gone by then.
        HotStack x = alone("-1", 0, 69, 99);
        x.mend(0, 6, 30);
        for (int n : Due.beyond(0, 40)) {
            due.due("n " + n, x.sell(n, 0, 0), VOID);
            due.due("n " + n, x.sell(n, 0, 1), VOID);
            due.due("n " + n + " of nothing", new HotStack().sell(n, 0, 1), VOID);
        }
        due.due("the 40th", x.sell(40, 0, 0), 40);
        due.due("32 by 9", x.sell(40, 0, 1), 3);
        due.due("the 39th is too early", x.sell(39, 0, 0), 0);
        due.due("that", x.sell(39, 0, 1), 0);
        due.due("now alone", x.sell(0, 0, 0), 0);
        due.due("that", x.sell(0, 0, 1), 0);
        x.mend(0, 1, 70);
        due.due("the 41st counts no more", x.sell(40, 0, 0), 0);
        x.mend(0, 1, 30);
        due.due("the first", x.sell(1, 0, 0), 1);
        due.due("that", x.sell(1, 0, 1), 11);
        due.due("now alone", x.sell(0, 0, 0), 0);
    }

    static void sellLessForEachDay() {
        due.sentence(19, "on which it is worth most less c (0 .. 99) for each day");
        // 29 behind the 10th day, till then it GLOWS.
        HotStack x = alone("-1", 0, 39, 99);
        x.mend(0, 6, 30);
        for (int c : Due.beyond(0, 99)) {
            due.due("c " + c, x.sell(0, c, 0), VOID);
            due.due("c " + c, x.sell(40, c, 1), VOID);
            due.due("c " + c + " of nothing", new HotStack().sell(0, c, 1), VOID);
        }
        due.due("0 for each day", x.sell(40, 0, 0), 10);
        due.due("11", x.sell(40, 0, 1), 11);
        due.due("1 for each day", x.sell(40, 1, 0), 10);
        due.due("11 less 10", x.sell(40, 1, 1), 1);
        due.due("2 for each day: now", x.sell(40, 2, 0), 0);
        due.due("nothing", x.sell(40, 2, 1), 0);
        due.due("99 for each day: now", x.sell(40, 99, 0), 0);
        due.due("nothing", x.sell(40, 99, 1), 0);
    }

    static void sellWhat() {
        due.sentence(19, "SELL: which day (what 0), that (1). VOID: BAD.");
        HotStack x = alone("-1", 0, 31, 99);
        x.mend(0, 6, 30);
        for (int what : Due.beyond(0, 1)) {
            due.due("what " + what, x.sell(0, 0, what), VOID);
            due.due("what " + what + " of nothing", new HotStack().sell(0, 0, what), VOID);
        }
        due.due("which day", x.sell(5, 1, 0), 2);
        due.due("that", x.sell(5, 1, 1), 9);
        due.due("no cells: now", new HotStack().sell(40, 0, 0), 0);
        due.due("no cells: nothing", new HotStack().sell(40, 99, 1), 0);
    }

    static void sellOfLikeOnes() {
        due.sentence(19, "which (of like ones the least); that");
        HotStack x = Due.stack("0", 0);
        due.due("11 on each day", x.sell(40, 0, 0), 0);
        due.due("that", x.sell(40, 0, 1), 11);
        HotStack y = Due.stack("-1", 0);
        y.mend(0, 1, 31);
        y.mend(0, 6, 30);
        due.due("11 from behind 2 on", y.sell(40, 0, 0), 2);
        y.cart(1, 0);
        due.due("now 11, behind 2 days 22 less 22", y.sell(40, 11, 0), 0);
        due.due("now 11, behind 2 days 22 less 10", y.sell(40, 5, 0), 2);
        y.mend(0, 1, 30);
        due.due("now 11, behind 1 day 22 less 11", y.sell(40, 11, 0), 0);
        due.due("that", y.sell(40, 11, 1), 11);
        due.due("now 11, behind 1 day 22 less 10", y.sell(40, 10, 0), 1);
        due.due("that", y.sell(40, 10, 1), 12);
    }

    // ---- promise 20: whose

    static void whoseNothingIsGone() {
        due.sentence(20, "NOT: nothing is gone");
        due.due("no cells", new HotStack().whose(), NOT);
        HotStack x = Due.threeCells(null);
        due.due("nothing", x.whose(), NOT);
        x.mend(25, 2, 98);
        due.due("1 of 3", x.whose(), 3);
        x.mend(25, 2, 99);
        due.due("nothing again", x.whose(), NOT);
    }

    static void whoseOfLikeOnes() {
        due.sentence(20, "of like ones the least; NOT: nothing is gone");
        HotStack x = Due.stack(null, 9, 100, 205);
        x.mend(0, 2, 50);
        x.mend(10, 2, 50);
        due.due("9 and 5", x.whose(), 5);
        x.mend(5, 2, 50);
        due.due("9, 5 and 0", x.whose(), 0);
        x.mend(0, 2, 49);
        due.due("9 most", x.whose(), 9);
    }

    static void whoseAllCells() {
        due.sentence(20, "(99 less GOOD, all CELLS of it;");
        HotStack x = Due.stack(null, 9, 109, 205);
        x.mend(10, 2, 0);
        due.due("99 of 5", x.whose(), 5);
        x.mend(0, 2, 49);
        x.mend(5, 2, 49);
        due.due("50 and 50 of 9", x.whose(), 9);
        x.mend(5, 2, 50);
        due.due("50 and 49 of 9 are like 99 of 5", x.whose(), 5);
        HotStack y = Due.stack(null, 205);
        Due.hide(y, 0);
        due.due("what lies there no more", y.whose(), NOT);
    }

    // ---- promise 21: judge

    static void judgeShelves() {
        due.sentence(21, "SHELVES 0 .. 5");
        HotStack x = Due.threeCells("0");
        for (int shelf : Due.beyond(0, 5)) {
            due.due("shelf " + shelf, x.judge(shelf, 5), BAD);
        }
        Due.bytes(x, 5, 21);
        due.due("the last shelf", x.judge(5, 5), 0);
    }

    static void judgeCells() {
        due.sentence(21, "HEAT of a told CELL behind 0, 1, 2 .. days");
        HotStack x = Due.threeCells("d");
        Due.bytes(x, 0, 20, 24, 28);
        for (int cell : Due.noCells()) {
            due.due("cell " + cell, x.judge(0, cell), BAD);
            due.due("cell " + cell + " of nothing", x.judge(1, cell), BAD);
        }
        due.due("5", x.judge(0, 5), NOT);
        due.due("6", x.judge(0, 6), 1);
        due.due("25", x.judge(0, 25), 1);
    }

    static void judgeFirst() {
        due.sentence(21, "JUDGED: the first that is not so; NOT");
        HotStack x = Due.threeCells("1");
        Due.bytes(x, 0, 20, 21, 22, 23);
        due.due("all is so", x.judge(0, 5), NOT);
        x.put(0, 3, 24);
        due.due("the last", x.judge(0, 5), 3);
        x.put(0, 1, 20);
        due.due("the second", x.judge(0, 5), 1);
        x.put(0, 0, 19);
        due.due("the first", x.judge(0, 5), 0);
        x.row(0, 0, 0);
        due.due("an empty book", x.judge(0, 5), NOT);
        HotStack y = Due.stack("0", 0);
        y.mend(0, 1, 0);
        y.row(0, 0, 60);
        due.due("HEAT 0 is read", y.judge(0, 0), NOT);
        y.mend(0, 1, 99);
        Due.bytes(y, 0, 99, 99);
        due.due("HEAT 99 is read", y.judge(0, 0), NOT);
    }

    static void judgeNotRead() {
        due.sentence(21, "(100: not read;");
        HotStack x = Due.threeCells("1");
        Due.bytes(x, 0, 100, 100, 22);
        due.due("two are not read", x.judge(0, 5), NOT);
        Due.bytes(x, 0, 100, 100, 21);
        due.due("the third is wrong", x.judge(0, 5), 2);
        Due.bytes(x, 0, 100);
        due.due("none is read", x.judge(0, 5), NOT);
    }

    static void judgeAtMost41() {
        due.sentence(21, "41 at most count)");
        HotStack x = Due.threeCells("1");
        x.row(0, 0, 60);
        for (int i = 0; i < 60; i++) {
            x.put(0, i, i <= 40 ? 20 + i : 0);
        }
        due.due("the 41 first are so", x.judge(0, 5), NOT);
        x.put(0, 40, 61);
        due.due("the 41st is not", x.judge(0, 5), 40);
        x.put(0, 40, 100);
        due.due("the 41st is not read", x.judge(0, 5), NOT);
        x.put(0, 39, 0);
        due.due("the 40th is not so", x.judge(0, 5), 39);
    }

    static void judgeOtherBytes() {
        due.sentence(21, "Bytes of a BOOK that are not 0 .. 100 are not so.");
        HotStack x = Due.threeCells("1");
        for (int other : new int[] {101, 102, 127, -1, -2, -100, -127, -128}) {
            Due.bytes(x, 0, 20, other, 22);
            due.due("a byte " + other, x.judge(0, 5), 1);
            Due.bytes(x, 0, other);
            due.due("a byte " + other + " at first", x.judge(0, 5), 0);
        }
        HotStack y = Due.stack("0", 0);
        y.mend(0, 1, 99);
        Due.bytes(y, 0, 99, 355, 101);
        due.due("355 is 99 as a byte, 101 is none", y.judge(0, 0), 2);
    }

    static void judgeRefusals() {
        due.sentence(21, "JUDGED. BAD, -11, -12 (no ROW of bytes); NOT.");
        HotStack x = Due.threeCells("1");
        due.due("nothing", x.judge(0, 5), -11);
        due.due("nothing, no cell", x.judge(0, 7), BAD);
        x.body(0);
        x.keep(0, 0);
        due.due("a body", x.judge(0, 5), -12);
        due.due("a body, no cell", x.judge(0, 7), BAD);
        for (int sort = 1; sort <= 4; sort++) {
            x.row(0, sort, 0);
            due.due("sort " + sort, x.judge(0, 5), -12);
            due.due("sort " + sort + ", no cell", x.judge(0, 7), BAD);
        }
    }

    // ---- promise 22: book

    static void bookDamps() {
        due.sentence(22, "DAMPS: by how many DAMPS (0 .. 9) of a told CELL (of all there) all is so; the least (NOT).");
        HotStack x = Due.stack("d", 40, 150);
        Due.bytes(x, 0, 20);
        due.due("all ten", x.book(0, 0, 0), 10);
        due.due("the least", x.book(0, 0, 1), 0);
        for (int damp = 0; damp <= 9; damp++) {
            Due.bytes(x, 0, 20, 20 + damp);
            due.due("one", x.book(0, 0, 0), 1);
            due.due("which", x.book(0, 0, 1), damp);
        }
        Due.bytes(x, 0, 20, 30);
        due.due("none", x.book(0, 0, 0), 0);
        due.due("none", x.book(0, 0, 1), NOT);
        Due.bytes(x, 0, 20, 25);
        due.due("of cell 5 told, all ten by 0 of 4", x.book(0, 5, 0), 0);
        due.due("a rod in 5, of 0 told", x.book(0, 500, 0), 10);
        due.due("a rod in 5, of 5 told", x.book(0, 505, 1), 5);
        Due.tell(x, "d/5");
        Due.bytes(x, 0, 20, 21);
        due.due("5 to 9", x.book(0, 0, 0), 5);
        due.due("the least", x.book(0, 0, 1), 5);
    }

    static void bookDampIsAsItWas() {
        due.sentence(22, "DAMPS: how many (what 0), the least (1; NOT), SALTED (2: bits).");
        HotStack x = Due.stack("d+s", 40);
        Due.bytes(x, 0, 20, 24);
        for (int what : Due.beyond(0, 2)) {
            due.due("what " + what, x.book(0, 0, what), BAD);
            due.due("what " + what + " of nothing", x.book(1, 0, what), BAD);
        }
        due.due("how many", x.book(0, 0, 0), 1);
        due.due("the least", x.book(0, 0, 1), 4);
        due.due("SALT 0 alone", x.book(0, 0, 2), 1);
        due.due("DAMP", x.of(0, 0), 4);
        due.due("SALT", x.of(0, 3), 0);
    }

    static void bookSalted() {
        due.sentence(22, "SALTED: by which of SALT 0, 1 (bits) of it.");
        HotStack x = Due.stack("s", 40);
        Due.bytes(x, 0, 20);
        due.due("both", x.book(0, 0, 2), 3);
        Due.bytes(x, 0, 20, 20);
        due.due("0", x.book(0, 0, 2), 1);
        Due.bytes(x, 0, 20, 21);
        due.due("1", x.book(0, 0, 2), 2);
        Due.bytes(x, 0, 20, 22);
        due.due("neither", x.book(0, 0, 2), 0);
        x.mend(0, 3, 1);
        Due.bytes(x, 0, 20, 20);
        due.due("0, whatever it is", x.book(0, 0, 2), 1);
    }

    static void bookCells() {
        due.sentence(22, "Of the BOOK of a rod in a CELL (cc: 100 times it, and the told CELL)");
        HotStack x = Due.threeCells("0");
        Due.bytes(x, 0, 20);
        for (int cell : Due.noCells()) {
            if (cell > -250 && cell < 100) {
                due.due("a rod in " + cell, x.book(0, 100 * cell + 5, 0), BAD);
                due.due("told " + cell, x.book(0, 500 + cell, 0), BAD);
            }
        }
        for (int cc : new int[] {-1, -505, -95, 599, 9905, 10505, 66041, Integer.MIN_VALUE, Integer.MAX_VALUE, 0, 5}) {
            due.due("cc " + cc, x.book(0, cc, 0), BAD);
            due.due("cc " + cc + " of nothing", x.book(1, cc, 0), BAD);
        }
        due.due("5, 25", x.book(0, 525, 0), 10);
        due.due("25, 6", x.book(0, 2506, 0), 10);
        due.due("25, 25", x.book(0, 2525, 0), 10);
        HotStack y = Due.stack("0", 0);
        Due.bytes(y, 0, 20);
        due.due("0, 0", y.book(0, 0, 0), 10);
    }

    static void bookAtMost41() {
        due.sentence(22, "(100: not read; 41 at most count)");
        HotStack x = Due.stack("d", 10);
        x.row(0, 0, 60);
        for (int i = 0; i < 60; i++) {
            x.put(0, i, 100);
        }
        due.due("none is read", x.book(0, 0, 0), 10);
        x.put(0, 41, 7);
        due.due("the 42nd does not count", x.book(0, 0, 0), 10);
        // DAMP 1: 50 behind 30 days, then it is 0 and stays; DAMP 0: 20.
        x.put(0, 40, 20);
        due.due("the 41st counts: DAMP 0", x.book(0, 0, 0), 1);
        due.due("the 41st counts: DAMP 0", x.book(0, 0, 1), 0);
        x.put(0, 40, 50);
        due.due("the 41st counts: DAMP 1", x.book(0, 0, 1), 1);
        x.put(0, 40, 101);
        due.due("not 0 .. 100", x.book(0, 0, 0), 0);
    }

    static void bookRefusals() {
        due.sentence(22, "SALTED (2: bits). BAD, -11, -12.");
        HotStack x = Due.threeCells("0");
        for (int shelf : Due.beyond(0, 5)) {
            due.due("shelf " + shelf, x.book(shelf, 505, 0), BAD);
        }
        due.due("nothing", x.book(5, 505, 0), -11);
        due.due("nothing, no cell", x.book(5, 507, 0), BAD);
        x.body(0);
        x.keep(5, 0);
        due.due("a body", x.book(5, 505, 1), -12);
        due.due("a body, no cell", x.book(5, 705, 1), BAD);
        for (int sort = 1; sort <= 4; sort++) {
            x.row(5, sort, 0);
            due.due("sort " + sort, x.book(5, 505, 2), -12);
            due.due("sort " + sort + ", what 3", x.book(5, 505, 3), BAD);
        }
        x.row(5, 0, 0);
        due.due("an empty book", x.book(5, 505, 2), 3);
    }

    // ---- promise 23: byTurns

    static void byTurnsNumbers() {
        due.sentence(23, "farmer and weather, n (1 .. 3) deeds in all, the farmer first");
        HotStack x = alone("0", 0, 60, 99);
        for (int nt : Due.beyond(10, 39)) {
            due.due("nt " + nt, x.byTurns(nt, 0), BAD);
            due.due("nt " + nt, x.byTurns(nt, 1), BAD);
        }
        for (int nt : new int[] {0, 1, 5, 99, -10, -15, -39, 110}) {
            due.due("nt " + nt, x.byTurns(nt, 0), BAD);
        }
        HotStack y = Due.stack("d", 0);
        due.due("one deed: the weather does none", y.byTurns(11, 0), 20);
        due.due("two deeds: it wets", y.byTurns(21, 0), 22);
        due.due("three deeds: it is turned, too", y.byTurns(31, 0), 21);
        HotStack z = Due.stack("d", 0, 100);
        z.mend(0, 1, 60);
        z.mend(5, 1, 50);
        due.due("one deed: 0 is turned", z.byTurns(10, 0), 50);
        due.due("two deeds: the second is not the farmer's", z.byTurns(20, 0), 50);
        due.due("three deeds: both are turned", z.byTurns(30, 0), 20);
    }

    static void byTurnsDays() {
        due.sentence(23, "behind them t (0 .. 9) days pass");
        HotStack x = Due.stack("1", 0);
        for (int t = 0; t <= 9; t++) {
            due.due("t " + t, x.byTurns(10 + t, 0), 20 + t);
            due.due("n 3, t " + t, x.byTurns(30 + t, 0), 20 + t);
        }
        HotStack y = Due.stack("d", 0);
        due.due("9 days behind one deed", y.byTurns(19, 0), 20);
        due.due("9 days behind two: DAMP 2", y.byTurns(29, 0), 38);
        due.due("9 days behind three: DAMP 1", y.byTurns(39, 0), 29);
    }

    static void byTurnsWet() {
        due.sentence(23, "the weather wets one (DAMP of its top CELL 2 more, 9 at most; an empty one: nothing)");
        due.due("DAMP 0 is 2", Due.stack("d", 0).byTurns(21, 0), 22);
        due.due("DAMP 5 is 4, then 6", Due.stack("d", 50).byTurns(21, 0), 26);
        due.due("DAMP 7 is 6, then 8", Due.stack("d", 70).byTurns(21, 0), 28);
        due.due("DAMP 8 is 7, then 9", Due.stack("d", 80).byTurns(21, 0), 29);
        due.due("DAMP 9 is 8, then 9", Due.stack("d", 90).byTurns(21, 0), 29);
        due.due("DAMP 9 stays", Due.stack("d*2", 90).byTurns(21, 0), 38);
        due.due("the top, not the ground", Due.stack("l=0?d;0", 10, 0).byTurns(21, 0), 20);
        due.due("the top", Due.stack("l=1?d;0", 90, 0).byTurns(21, 0), 22);
        due.due("the top of five", Due.stack("l=4?d;0", 0, 0, 0, 0, 0).byTurns(21, 0), 22);
    }

    static void byTurnsFarmerFirst() {
        due.sentence(23, "the farmer's first (of like ones 6 first, then the least)");
        HotStack x = Due.stack("0", 0, 100, 200, 300, 400, 500);
        due.due("all like", x.byTurns(10, 1), 6);
        due.due("all like", x.byTurns(39, 1), 6);
        x.mend(25, 1, 50);
        due.due("the last COLUMN", x.byTurns(10, 1), 5);
        x.mend(15, 1, 50);
        due.due("two are hot, one deed: nothing is as good", x.byTurns(10, 1), 6);
        due.due("two are hot, both can be turned: the least first", x.byTurns(30, 1), 3);
        x.mend(0, 1, 50);
        due.due("three are hot, two deeds: nothing is as good", x.byTurns(30, 1), 6);
        due.due("an empty COLUMN is as nothing", Due.stack("0", 100).byTurns(10, 1), 6);
        for (int what : Due.beyond(0, 1)) {
            due.due("what " + what, x.byTurns(10, what), BAD);
            due.due("what " + what + " of nothing", new HotStack().byTurns(10, what), BAD);
        }
    }

    static void byTurnsNothing() {
        due.sentence(23, "an empty one: nothing), or nothing (6)");
        HotStack x = Due.stack("0", 0, 100, 200, 300, 400, 500);
        for (int column = 0; column <= 5; column++) {
            x.mend(5 * column, 1, 10);
        }
        due.due("turned, one would be 20: the farmer does nothing", x.byTurns(10, 0), 10);
        due.due("6", x.byTurns(10, 1), 6);
        due.due("three deeds", x.byTurns(39, 0), 10);
        // Wherever it wets, the hottest gets 75, not 76.
        HotStack z = Due.stack("n-h+9-d", 0, 130, 230, 310, 400, 520);
        due.due("the weather may do nothing, too", z.byTurns(27, 0), 76);
        HotStack y = Due.stack("d", 500);
        due.due("five are empty, one is wetted", y.byTurns(21, 0), 22);
    }

    static void byTurnsOfNothing() {
        due.sentence(23, "then the least); NOT: no CELLS are there.");
        HotStack x = new HotStack();
        for (int nt : new int[] {10, 19, 20, 29, 30, 39}) {
            due.due("that", x.byTurns(nt, 0), NOT);
            due.due("first", x.byTurns(nt, 1), NOT);
        }
        due.due("BAD is named first", x.byTurns(40, 0), BAD);
        HotStack y = Due.stack("-20", 0);
        due.due("HEAT 0 is no NOT", y.byTurns(11, 0), 0);
        due.due("nothing is as good", y.byTurns(11, 1), 6);
    }

    static void byTurnsBest() {
        due.sentence(23, "the farmer wants the hottest least hot, the weather most: that, if both do their best");
        HotStack x = Due.stack("d", 50, 140);
        x.mend(0, 1, 40);
        due.due("0 is turned, the weather wets either: 20 and 6 and 6", x.byTurns(22, 0), 32);
        due.due("0 first", x.byTurns(22, 1), 0);
        due.due("what was wetted is turned: 20 and 5 and 5", x.byTurns(32, 0), 30);
        HotStack y = Due.stack("d", 80, 190);
        due.due("0 or 1 may be 9: nothing is as good", y.byTurns(21, 1), 6);
        due.due("29", y.byTurns(21, 0), 29);
        due.due("what is 9 is turned to 8", y.byTurns(31, 0), 28);
    }

    static void byTurnsTurned() {
        due.sentence(23, "the farmer turns a COLUMN");
        HotStack x = alone("d", 5, 60, 99);
        due.due("HEAT 20, DAMP 4", x.byTurns(11, 0), 24);
        due.due("DAMP 0 stays", alone("d", 0, 60, 99).byTurns(11, 0), 20);
        HotStack y = alone("0", 5, 99, 99);
        due.due("99 is turned", y.byTurns(10, 0), 20);
        due.due("COLUMN 0", y.byTurns(10, 1), 0);
        y.cart(1, 0);
        y.mend(5, 1, 99);
        due.due("99 stays", y.byTurns(20, 0), 99);
        due.due("nothing is as good", y.byTurns(20, 1), 6);
    }

    // ---- promise 24: drawn

    /** In how many of the summers a CELL GLOWS at the end, and GOOD, if each COLUMN has one CELL that heats by DAMP less 3. */
    private static int[] summers(int seed, int n, int m, int wet, int[] damps, int glows) {
        int z = seed;
        int glow = 0;
        int goodOfAll = 0;
        for (int i = 0; i < n; i++) {
            int[] damp = damps.clone();
            int[] heat = {20, 20, 20, 20, 20, 20};
            int[] good = {99, 99, 99, 99, 99, 99};
            for (int j = 0; j < m; j++) {
                z = z * 1103515245 + 12345;
                int column = (z >>> 8) % 6;
                damp[column] = (z >>> 16) % 12 < wet ? Math.min(9, damp[column] + 2) : damp[column];
                for (int c = 0; c < 6; c++) {
                    heat[c] = Math.max(0, Math.min(99, heat[c] + damp[c] - 3));
                    good[c] = heat[c] >= 40 ? Math.max(0, good[c] - heat[c] / 20) : good[c];
                    damp[c] = heat[c] >= 50 ? Math.max(0, damp[c] - 1) : damp[c];
                }
            }
            int many = 0;
            for (int c = 0; c < 6; c++) {
                many += heat[c] >= glows ? 1 : 0;
                goodOfAll += good[c];
            }
            glow += many > 0 ? 1 : 0;
        }
        return new int[] {glow, goodOfAll};
    }

    private static HotStack sixCells(int glows) {
        HotStack x = Due.stack("d-3", 0, 130, 230, 350, 470, 590);
        x.mend(0, 6, glows);
        return x;
    }

    private static void summersAre(HotStack x, int glows, int seed, int n, int m, int wet) {
        int[] want = summers(seed, n, m, wet, new int[] {0, 3, 3, 5, 7, 9}, glows);
        String call = "drawn(" + seed + ", " + (10000 * n + 100 * m + wet);
        due.due(call + ", 0)", x.drawn(seed, 10000 * n + 100 * m + wet, 0), want[0]);
        due.due(call + ", 1)", x.drawn(seed, 10000 * n + 100 * m + wet, 1), want[1]);
    }

    static void drawnSeeds() {
        due.sentence(24, "z = z * 1103515245 + 12345 (an int; SEED at first) ahead of each day");
        HotStack x = sixCells(55);
        for (int seed : new int[] {0, 1, -1, 2, 7, 65536, 1 << 30, 12345, -12345, Integer.MIN_VALUE, Integer.MAX_VALUE,
            Integer.MIN_VALUE + 1, Integer.MAX_VALUE - 1}) {
            summersAre(x, 55, seed, 5, 12, 6);
            summersAre(x, 55, seed, 1, 1, 11);
        }
    }

    static void drawnSummers() {
        due.sentence(24, "DRAWN: n summers (1 .. 30) of m (1 .. 30) days from now by a SEED");
        HotStack x = sixCells(60);
        for (int n = 1; n <= 30; n += n == 1 ? 1 : 7) {
            for (int m = 1; m <= 30; m += m == 1 ? 1 : 7) {
                summersAre(x, 60, 99, n, m, 7);
            }
        }
        summersAre(x, 60, 5, 30, 30, 7);
        for (int n : new int[] {0, 31, 32, 99, 100, 300, -1, -30, 65537}) {
            due.due("n " + n, x.drawn(1, 10000 * n + 101, 0), BAD);
        }
        for (int m : new int[] {0, 31, 32, 50, 99}) {
            due.due("m " + m, x.drawn(1, 10000 + 100 * m + 1, 0), BAD);
        }
    }

    static void drawnWet() {
        due.sentence(24, "if (z >>> 16) % 12 is below WET (0 .. 12, told)");
        HotStack x = sixCells(50);
        for (int wet = 0; wet <= 12; wet++) {
            summersAre(x, 50, 3, 3, 20, wet);
        }
        for (int wet : new int[] {13, 14, 50, 99}) {
            due.due("WET " + wet, x.drawn(1, 10100 + wet, 0), BAD);
        }
        HotStack y = Due.stack("d*20", 0, 100, 200, 300, 400, 500);
        y.mend(0, 6, 60);
        due.due("WET 0: it never rains", y.drawn(1, 303000, 0), 0);
        due.due("WET 12: it rains each day", y.drawn(1, 300212, 0), 30);
    }

    static void drawnRain() {
        due.sentence(24, "it rains on COLUMN (z >>> 8) % 6");
        // SEED 0: z is 12345, 12345 >>> 8 is 48: it rains on COLUMN 0, as 0 % 12 is below 1.
        HotStack x = Due.stack("d", 0);
        x.mend(0, 6, 30);
        x.mend(0, 1, 28);
        due.due("COLUMN 0 is wetted", x.drawn(0, 10101, 0), 1);
        HotStack y = Due.stack("d", 100, 200, 300, 400, 500);
        for (int column = 1; column <= 5; column++) {
            y.mend(5 * column, 1, 28);
        }
        y.mend(0, 6, 30);
        due.due("an empty COLUMN: nothing", y.drawn(0, 10101, 0), 0);
        HotStack z = Due.stack("d", 80);
        z.mend(0, 6, 30);
        due.due("DAMP 8 is 9: 29", z.drawn(0, 10101, 0), 0);
        z.mend(0, 6, 30);
        z.mend(0, 1, 21);
        due.due("DAMP 8 is 9: 30", z.drawn(0, 10101, 0), 1);
        HotStack w = Due.stack("l=0?d;0", 0, 0);
        w.mend(0, 6, 30);
        w.mend(0, 1, 28);
        due.due("the top, not the ground", w.drawn(0, 10101, 0), 0);
    }

    static void drawnAtTheEnd() {
        due.sentence(24, "in how many a CELL GLOWS at the end; GOOD at the ends, all together");
        HotStack x = Due.stack("-1", 0, 0);
        x.mend(0, 1, 90);
        x.mend(1, 1, 95);
        due.due("94 of 90", x.drawn(1, 300100, 0), 30);
        due.due("90 behind 5", x.drawn(1, 300500, 0), 30);
        due.due("89 behind 6", x.drawn(1, 300600, 0), 0);
        due.due("GOOD: less 4 and 4 in each", x.drawn(1, 300100, 1), 30 * 190);
        x.mend(0, 6, 30);
        due.due("two CELLS GLOW in each", x.drawn(1, 300100, 0), 30);
        due.due("no cells", new HotStack().drawn(1, 303012, 1), 0);
        due.due("no cells", new HotStack().drawn(1, 303012, 0), 0);
        HotStack y = Due.stack("0", 0, 0, 0, 0, 0, 100);
        due.due("6 of 99 in 30", y.drawn(1, 303000, 1), 30 * 6 * 99);
    }

    static void drawnNumbers() {
        due.sentence(24, "DRAWN (nmw: 10000 n, 100 m, and WET): in how many a CELL GLOWS (what 0), GOOD (1). BAD.");
        HotStack x = sixCells(50);
        for (int nmw : new int[] {-10101, -1, 0, 1, 100, 9999, 10000, 10099, 10113, 13100, 310100, 1000101, -303012,
            Integer.MIN_VALUE, Integer.MAX_VALUE, 10101 + (1 << 20), -990000}) {
            due.due("nmw " + nmw, x.drawn(1, nmw, 0), BAD);
            due.due("nmw " + nmw, x.drawn(1, nmw, 1), BAD);
        }
        for (int what : Due.beyond(0, 1)) {
            due.due("what " + what, x.drawn(1, 10100, what), BAD);
        }
        due.due("the least", x.drawn(1, 10100, 0) >= 0 ? 1 : 0, 1);
        due.due("the most", x.drawn(1, 303012, 0) >= 0 ? 1 : 0, 1);
    }
}
