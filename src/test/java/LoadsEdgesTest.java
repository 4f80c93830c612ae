/** The sentences of promises 1 to 8, and of what is said of them ahead, that name a boundary: a method for each. */
public final class LoadsEdgesTest {
    private static final int BAD = -1, NOT = -2, FULL = -3, STATE = -5, VOID = -2000000000;
    private static final Due due = new Due();

    public static void main(String[] args) {
        due.sentencesOf(LoadsEdgesTest.class, 1, 8);
        due.finish("LoadsEdgesTest");
    }

    // ---- promise 1: a new object

    static void newColumns() {
        due.sentence(1, "as many as it is HIGH (0 at first)");
        HotStack x = new HotStack();
        for (int column = 0; column <= 5; column++) {
            due.due("HIGH of " + column, x.of(column, 8), 0);
        }
        due.due("cells", x.count(0), 0);
    }

    static void newChimneys() {
        due.sentence(1, "CHIMNEY of a COLUMN (0, 1; 0 at first)");
        HotStack x = new HotStack();
        for (int column = 0; column <= 5; column++) {
            due.due("CHIMNEY of " + column, x.of(column, 5), 0);
        }
    }

    static void newGlows() {
        due.sentence(1, "GLOWS (30 .. 99; 90 at first)");
        HotStack x = new HotStack();
        due.due("GLOWS", x.of(0, 6), 90);
        x.cart(0, 0);
        x.mend(0, 1, 89);
        due.due("89 does not glow", x.count(1), 0);
        x.mend(0, 1, 90);
        due.due("90 does", x.count(1), 1);
    }

    static void newDay() {
        due.sentence(1, "DAY (0 .. 99; 0 at first)");
        due.due("DAY", new HotStack().of(0, 7), 0);
    }

    static void newShelves() {
        due.sentence(1, "SHELVES 0 .. 5 each hold nothing (at first)");
        HotStack x = new HotStack();
        for (int shelf = 0; shelf <= 5; shelf++) {
            due.due("put", x.put(shelf, 0, 1), -11);
            due.due("element", x.element(shelf, 0), Long.MIN_VALUE);
            due.due("taken", x.taken(shelf, 0), -11);
            due.due("lay", x.lay(shelf, 0, -1), -11);
            due.due("loads", x.loads(shelf, 0, 1), 0);
        }
    }

    static void newLed() {
        due.sentence(1, "LED: carted, turned, salted, read, days, the hottest read (NOT: none)");
        HotStack x = new HotStack();
        for (int what = 0; what <= 4; what++) {
            due.due("led " + what, x.led(what), 0);
        }
        due.due("none read", x.led(5), NOT);
    }

    static void newHasNothingBehind() {
        due.sentence(1, "Ground for a stack.");
        HotStack x = new HotStack();
        due.due("back", x.back(), STATE);
        due.due("undo", x.undo(), STATE);
        due.due("redo", x.redo(), STATE);
        due.due("law: an empty text", x.law(), -100);
        due.due("trace", x.trace(0), BAD);
        due.due("act", x.act(0, 0, 0), 0);
        for (int what = 0; what <= 5; what++) {
            due.due("count " + what, x.count(what), 0);
        }
    }

    static void calls512() {
        due.sentence(1, "An object is used for at most 512 calls after it has been made");
        HotStack x = new HotStack();
        for (int i = 1; i <= 511; i++) {
            due.due("day", x.day(), 0);
        }
        due.due("the 512th call", x.led(4), 511);
        HotStack y = Due.stack(null, 95);
        for (int i = 0; i < 510; i++) {
            due.due("mend", y.mend(0, 1, 20 + (i + 1) % 50), 20 + i % 50);
        }
        due.due("the 512th call", y.undo(), 39);
    }

    static void objectsOfTheirOwn() {
        due.sentence(1, "All memory is the class's own.");
        HotStack x = new HotStack();
        HotStack y = Due.withAll();
        due.due("cells", x.count(0), 0);
        due.due("bytes", x.count(2), 0);
        due.due("changes", x.count(3), 0);
        due.due("bodies", x.count(4), 0);
        due.due("bodies that ran", x.count(5), 0);
        due.due("shelf 2", x.put(2, 0, 0), -11);
        due.due("an image", x.back(), STATE);
        due.due("the other's", y.back(), 1);
        due.due("cart", x.cart(0, 0), 0);
        due.due("the law of none", x.heats(0), -3);
    }

    static void constants() {
        due.sentence(1, "BAD (-1): no such number, or it is not as said; NOT (-2): as told; FULL (-3); STATE (-5): as told; "
            + "-11 to -14. VOID is -2000000000.");
        due.due("BAD", HotStack.BAD, -1);
        due.due("NOT", HotStack.NOT, -2);
        due.due("FULL", HotStack.FULL, -3);
        due.due("STATE", HotStack.STATE, -5);
        due.due("VOID", HotStack.VOID, -2000000000);
    }

    // ---- promise 2: cart

    static void cartColumns() {
        due.sentence(2, "COLUMNS 0 .. 5");
        HotStack x = new HotStack();
        for (int column : Due.beyond(0, 5)) {
            due.due("cart onto " + column, x.cart(column, 11), BAD);
        }
        due.due("no cells came", x.count(0), 0);
        due.due("the first column", x.cart(0, 11), 0);
        due.due("the last column", x.cart(5, 11), 25);
    }

    static void cartDampAndLoad() {
        due.sentence(2, "A load of DAMP (0 .. 9) and LOAD (0 .. 9; dl: 10 times the one, and the other)");
        HotStack x = new HotStack();
        for (int dl : Due.beyond(0, 99)) {
            due.due("dl " + dl, x.cart(1, dl), BAD);
        }
        due.due("dl -10", x.cart(1, -10), BAD);
        due.due("dl -9", x.cart(1, -9), BAD);
        due.due("no cells came", x.count(0), 0);
        int[] all = {0, 9, 90, 99, 10};
        for (int i = 0; i < 5; i++) {
            due.due("dl " + all[i], x.cart(1, all[i]), 5 + i);
            due.due("DAMP", x.of(5 + i, 0), all[i] / 10);
            due.due("LOAD", x.of(5 + i, 4), all[i] % 10);
        }
    }

    static void cartLayers() {
        due.sentence(2, "each of LAYERS 0 .. 4 from the ground up");
        HotStack x = new HotStack();
        for (int layer = 0; layer <= 4; layer++) {
            due.due("onto column 3", x.cart(3, 55), 15 + layer);
            due.due("HIGH", x.of(3, 8), layer + 1);
        }
        due.due("a sixth layer", x.cart(3, 55), FULL);
        due.due("HIGH", x.of(3, 8), 5);
        due.due("no cell of the next column", x.of(20, 1), BAD);
        due.due("the next column is empty", x.cart(4, 55), 20);
    }

    static void cartFull() {
        due.sentence(2, "FULL (-3)");
        HotStack x = Due.stack(null, 11, 22, 33, 44, 55);
        x.mend(4, 1, 77);
        due.due("onto a full column", x.cart(0, 0), FULL);
        due.due("again", x.cart(0, 99), FULL);
        due.due("carted", x.led(0), 5);
        due.due("cells", x.count(0), 5);
        due.due("DAMP of the top", x.of(4, 0), 5);
        due.due("HEAT of the top", x.of(4, 1), 77);
        due.due("LOAD of the top", x.of(4, 4), 5);
        due.due("DAMP of the ground", x.of(0, 0), 1);
    }

    static void cartBadAheadOfFull() {
        due.sentence(2, "Answers, of several the one named first: BAD (-1)");
        HotStack x = Due.stack(null, 0, 0, 0, 0, 0);
        due.due("full, and a dl of 100", x.cart(0, 100), BAD);
        due.due("full, and a dl of -1", x.cart(0, -1), BAD);
    }

    static void cartedCell() {
        due.sentence(2, "a CELL: 5 times the COLUMN, and the LAYER");
        HotStack x = new HotStack();
        for (int i = 0; i < 30; i++) {
            int column = i % 6;
            int layer = i / 6;
            due.due("cart", x.cart(column, 0), 5 * column + layer);
        }
        due.due("all are there", x.count(0), 30);
    }

    /** A CELL that came where all numbers of the place were others. */
    private static HotStack onAUsedPlace() {
        HotStack x = new HotStack();
        Due.hide(x, 2);
        due.due("nothing is there", x.of(10, 1), BAD);
        due.due("it comes", x.cart(2, 35), 10);
        return x;
    }

    static void heatAsItComes() {
        due.sentence(2, "HEAT (0 .. 99; 20 as it comes)");
        due.due("HEAT", onAUsedPlace().of(10, 1), 20);
    }

    static void goodAsItComes() {
        due.sentence(2, "GOOD (0 .. 99; 99 as it comes)");
        due.due("GOOD", onAUsedPlace().of(10, 2), 99);
    }

    static void saltAsItComes() {
        due.sentence(2, "SALT (0, 1; 0 as it comes)");
        due.due("SALT", onAUsedPlace().of(10, 3), 0);
        HotStack x = new HotStack();
        x.salt(0);
        x.cart(0, 0);
        due.due("a column salted while it was empty", x.of(0, 3), 0);
    }

    static void cartIsLed() {
        due.sentence(2, "IN DEED: a load is CARTED (onto a COLUMN)");
        HotStack x = Due.stack(null, 0, 0, 0, 0, 0, 100);
        x.cart(0, 0);
        x.cart(6, 0);
        x.cart(1, 100);
        due.due("carted, neither FULL nor BAD", x.led(0), 6);
        due.due("is no change", x.count(3), 0);
    }

    // ---- promise 3: loads

    static void loadsShelves() {
        due.sentence(3, "SHELVES 0 .. 5");
        HotStack x = new HotStack();
        for (int shelf : Due.beyond(0, 5)) {
            due.due("shelf " + shelf, x.loads(shelf, 0, 1), BAD);
        }
        Due.bytes(x, 0, 1, 2, 3);
        Due.bytes(x, 5, 2, 3, 4);
        due.due("the first shelf", x.loads(0, 0, 1), 1);
        due.due("the last shelf", x.loads(5, 0, 1), 1);
    }

    static void loadsNumber() {
        due.sentence(3, "n (1 .. 20) of them");
        HotStack x = new HotStack();
        x.row(0, 0, 60);
        for (int i = 0; i < 20; i++) {
            x.put(0, 3 * i, i / 4);
        }
        for (int n : Due.beyond(1, 20)) {
            due.due("n " + n, x.loads(0, 0, n), BAD);
        }
        due.due("n 0, of nothing", x.loads(1, 0, 0), BAD);
        due.due("none came", x.count(0), 0);
        due.due("n 20", x.loads(0, 0, 20), 20);
        due.due("20 cells", x.count(0), 20);
        due.due("n 1", x.loads(0, 0, 1), 1);
        due.due("one more", x.count(0), 21);
    }

    static void loadsBelowPlaceZero() {
        due.sentence(3, "how many came (0 with i below 0)");
        HotStack x = new HotStack();
        Due.bytes(x, 0, 0, 1, 2, 0, 1, 2, 0, 1, 2);
        for (int i : new int[] {-1, -2, -3, -9, Integer.MIN_VALUE, Integer.MIN_VALUE + 2}) {
            due.due("i " + i, x.loads(0, i, 3), 0);
            due.due("i " + i + " of nothing", x.loads(1, i, 3), 0);
        }
        due.due("i -1, n 21", x.loads(0, -1, 21), BAD);
        due.due("i -1, shelf 6", x.loads(6, -1, 1), BAD);
        due.due("none came", x.count(0), 0);
        due.due("carted", x.led(0), 0);
        due.due("i 0", x.loads(0, 0, 3), 3);
    }

    static void loadsOfAnotherKind() {
        due.sentence(3, "BAD, -12 (no ROW of bytes; a SHELF that holds nothing is missing)");
        HotStack x = new HotStack();
        x.body(0);
        x.keep(0, 0);
        due.due("a body", x.loads(0, 0, 1), -12);
        due.due("a body, n 0", x.loads(0, 0, 0), BAD);
        for (int sort = 1; sort <= 4; sort++) {
            x.row(0, sort, 3);
            due.due("a row of sort " + sort, x.loads(0, 0, 1), -12);
            due.due("a row of sort " + sort + ", n 21", x.loads(0, 0, 21), BAD);
            x.row(0, sort, 0);
            due.due("an empty row of sort " + sort, x.loads(0, 5, 1), -12);
        }
        due.due("none came", x.count(0), 0);
    }

    static void loadsOfNothing() {
        due.sentence(3, "it ends where the row is missing");
        HotStack x = new HotStack();
        due.due("a shelf that never held", x.loads(3, 0, 20), 0);
        x.row(3, 0, 6);
        x.keep(3, -1);
        due.due("a shelf that holds nothing any more", x.loads(3, 0, 20), 0);
        due.due("none came", x.count(0), 0);
    }

    static void loadsOfARowThatEnds() {
        due.sentence(3, "ends (within a three, too)");
        for (int many = 0; many <= 9; many++) {
            HotStack x = new HotStack();
            x.row(0, 0, many);
            due.due("from 0 on of " + many, x.loads(0, 0, 20), many / 3);
            due.due("that came", x.count(0), many / 3);
        }
        HotStack x = new HotStack();
        x.row(0, 0, 8);
        due.due("from 3 on: three, and two of a three", x.loads(0, 3, 2), 1);
        due.due("from 5 on: the last three", x.loads(0, 5, 2), 1);
        due.due("from 6 on: two of a three", x.loads(0, 6, 2), 0);
        due.due("from 7 on: one of a three", x.loads(0, 7, 2), 0);
        due.due("from 8 on: none", x.loads(0, 8, 2), 0);
        due.due("from 9 on: none", x.loads(0, 9, 2), 0);
        due.due("from far on", x.loads(0, Integer.MAX_VALUE, 20), 0);
        due.due("from far on", x.loads(0, Integer.MAX_VALUE - 2, 20), 0);
        due.due("from 60 on", x.loads(0, 60, 1), 0);
        due.due("that came", x.count(0), 2);
    }

    static void loadsNotAsTheyMayBe() {
        due.sentence(3, "one is not as it may be");
        int[][] threes = {{-1, 1, 1}, {6, 1, 1}, {-128, 1, 1}, {127, 1, 1}, {1, -1, 1}, {1, 10, 1}, {1, -128, 1},
            {1, 127, 1}, {1, 1, -1}, {1, 1, 10}, {1, 1, -128}, {1, 1, 127}};
        for (int[] three : threes) {
            HotStack x = new HotStack();
            Due.bytes(x, 0, three[0], three[1], three[2], 1, 1, 1, three[0], three[1], three[2], 1, 1, 1);
            due.due("the first", x.loads(0, 0, 4), 0);
            due.due("the second", x.loads(0, 3, 3), 1);
            due.due("those ahead came", x.count(0), 1);
            due.due("carted", x.led(0), 1);
        }
        HotStack x = new HotStack();
        Due.bytes(x, 0, 0, 0, 0, 5, 9, 9, 0, 9, 0, 5, 0, 9);
        due.due("all that may be", x.loads(0, 0, 4), 4);
        due.due("DAMP 9", x.of(25, 0), 9);
        due.due("LOAD 9", x.of(26, 4), 9);
    }

    static void loadsOntoAFullColumn() {
        due.sentence(3, "or its COLUMN is full: those ahead came");
        HotStack x = Due.stack(null, 100, 100, 100, 100);
        Due.bytes(x, 0, 2, 0, 0, 1, 9, 8, 1, 7, 6, 2, 0, 0);
        due.due("onto 2, 1, then 1 is full", x.loads(0, 0, 4), 2);
        due.due("HIGH of 1", x.of(1, 8), 5);
        due.due("HIGH of 2: none behind the full one", x.of(2, 8), 1);
        due.due("the top", x.of(9, 4), 8);
        due.due("none at all", x.loads(0, 3, 2), 0);
        due.due("carted", x.led(0), 6);
    }

    static void loadsAreLed() {
        due.sentence(3, "n of them are carted (LED)");
        HotStack x = new HotStack();
        Due.bytes(x, 0, 0, 1, 1, 1, 2, 2, 2, 3, 3);
        due.due("two of three", x.loads(0, 0, 2), 2);
        due.due("carted", x.led(0), 2);
        due.due("no third", x.of(2, 8), 0);
        due.due("DAMP", x.of(5, 0), 2);
        due.due("LOAD", x.of(5, 4), 2);
        due.due("HEAT as it comes", x.of(5, 1), 20);
        due.due("is no change", x.count(3), 0);
    }

    static void loadsFromAPlaceOn() {
        due.sentence(3, "LOADS FROM A ROW of bytes, from place i on: by threes COLUMN, DAMP, LOAD");
        HotStack x = new HotStack();
        Due.bytes(x, 0, 99, 3, 4, 5, 2, 1, 0);
        due.due("from 1 on", x.loads(0, 1, 2), 2);
        due.due("DAMP of 15", x.of(15, 0), 4);
        due.due("LOAD of 15", x.of(15, 4), 5);
        due.due("DAMP of 10", x.of(10, 0), 1);
        due.due("LOAD of 10", x.of(10, 4), 0);
    }

    // ---- promise 4: mend

    /** Told: a what of CELL 6 of Due.threeCells(), and what it may be. */
    private static void mendsWithin(int number, int what, int least, int most) {
        HotStack x = Due.threeCells(null);
        int now = x.of(number, what);
        for (int v : Due.beyond(least, most)) {
            due.due("v " + v, x.mend(number, what, v), BAD);
        }
        due.due("unchanged", x.of(number, what), now);
        due.due("no change", x.count(3), 0);
        due.due("the most", x.mend(number, what, most), now);
        due.due("it is", x.of(number, what), most);
        due.due("the least", x.mend(number, what, least), most);
        due.due("it is", x.of(number, what), least);
    }

    static void mendDamp() {
        due.sentence(4, "A CELL has DAMP (0 .. 9)");
        mendsWithin(6, 0, 0, 9);
    }

    static void mendHeat() {
        due.sentence(4, "HEAT (0 .. 99;");
        mendsWithin(6, 1, 0, 99);
    }

    static void mendGood() {
        due.sentence(4, "GOOD (0 .. 99;");
        mendsWithin(6, 2, 0, 99);
    }

    static void mendSalt() {
        due.sentence(4, "SALT (0, 1;");
        mendsWithin(6, 3, 0, 1);
    }

    static void mendLoad() {
        due.sentence(4, "LOAD (0 .. 9: whose)");
        mendsWithin(6, 4, 0, 9);
    }

    static void mendChimney() {
        due.sentence(4, "CHIMNEY of a COLUMN (0, 1;");
        for (int column = 0; column <= 5; column++) {
            mendsWithin(column, 5, 0, 1);
        }
    }

    static void mendGlows() {
        due.sentence(4, "GLOWS (30 .. 99;");
        mendsWithin(0, 6, 30, 99);
    }

    static void mendDay() {
        due.sentence(4, "DAY (0 .. 99;");
        mendsWithin(0, 7, 0, 99);
    }

    static void mendCellsThatAreThere() {
        due.sentence(4, "it is there, if the LAYER is below HIGH");
        HotStack x = Due.threeCells(null);
        for (int what = 0; what <= 4; what++) {
            for (int cell : Due.noCells()) {
                due.due("mend(" + cell + ", " + what + ")", x.mend(cell, what, 1), BAD);
            }
        }
        HotStack y = Due.threeCells(null);
        for (int what = 0; what <= 4; what++) {
            due.due("LAYER 1 of 2", y.mend(6, what, 1) != BAD ? 1 : 0, 1);
            due.due("LAYER 0 of 1", y.mend(25, what, 1) != BAD ? 1 : 0, 1);
        }
    }

    static void mendColumnsOfChimneys() {
        due.sentence(4, "CHIMNEY (5) of a COLUMN");
        HotStack x = new HotStack();
        for (int column : Due.beyond(0, 5)) {
            due.due("CHIMNEY of " + column, x.mend(column, 5, 1), BAD);
        }
        due.due("an empty COLUMN has one, too", x.mend(5, 5, 1), 0);
    }

    static void mendNumberZero() {
        due.sentence(4, "GLOWS (6), DAY (7; number 0 for these, another: BAD)");
        HotStack x = Due.threeCells(null);
        for (int what = 6; what <= 7; what++) {
            for (int number : new int[] {1, -1, 5, 6, 7, 25, 65536, 256, Integer.MIN_VALUE, Integer.MAX_VALUE}) {
                due.due("mend(" + number + ", " + what + ")", x.mend(number, what, 50), BAD);
            }
        }
        due.due("GLOWS", x.mend(0, 6, 50), 90);
        due.due("DAY", x.mend(0, 7, 50), 0);
    }

    static void mendWhat() {
        due.sentence(4, "DAMP (what 0), HEAT (1), GOOD (2), SALT (3), LOAD (4) of a CELL");
        HotStack x = Due.threeCells(null);
        for (int what : Due.beyond(0, 7)) {
            due.due("what " + what, x.mend(5, what, 1), BAD);
            due.due("what " + what + " of 0", x.mend(0, what, 1), BAD);
        }
        due.due("HIGH is no number of mend()", x.mend(1, 8, 2), BAD);
        due.due("HIGH", x.of(1, 8), 2);
    }

    static void mendWhatItWas() {
        due.sentence(4, "becomes v: what it was");
        HotStack x = Due.threeCells(null);
        due.due("20", x.mend(5, 1, 0), 20);
        due.due("0", x.mend(5, 1, 99), 0);
        due.due("the same", x.mend(5, 1, 99), 99);
        due.due("it is", x.of(5, 1), 99);
        due.due("the cell above stays", x.of(6, 1), 20);
    }

    static void mendTheSame() {
        due.sentence(4, "telling the same number is none");
        HotStack x = Due.threeCells(null);
        due.due("the same", x.mend(5, 1, 20), 20);
        due.due("the same", x.mend(0, 6, 90), 90);
        due.due("the same", x.mend(0, 7, 0), 0);
        due.due("the same", x.mend(3, 5, 0), 0);
        due.due("no change", x.count(3), 0);
        due.due("none to undo", x.undo(), STATE);
    }

    static void mendRefused() {
        due.sentence(4, "What is answered so changes nothing.");
        HotStack x = Due.withAll();
        x.mend(5, 1, 100);
        x.mend(5, 1, -1);
        x.mend(9, 1, 50);
        x.mend(6, 5, 1);
        x.mend(1, 6, 50);
        x.mend(1, 7, 50);
        x.mend(0, 8, 1);
        x.of(0, 9);
        x.cart(0, 0);
        x.cart(1, 100);
        x.cart(-1, 0);
        x.loads(1, 0, 1);
        x.loads(3, 0, 1);
        x.loads(2, 0, 0);
        x.loads(6, 0, 1);
        x.feed(256);
        x.feed(-1);
        x.heats(9);
        due.isAsWithAll(x);
    }

    // ---- promise 5: of

    static void ofCellsThatAreThere() {
        due.sentence(5, "cells (a CELL that is not there: BAD)");
        HotStack x = Due.threeCells(null);
        for (int what = 0; what <= 4; what++) {
            for (int cell : Due.noCells()) {
                due.due("of(" + cell + ", " + what + ")", x.of(cell, what), BAD);
            }
        }
        due.due("DAMP of 6", x.of(6, 0), 5);
        due.due("LOAD of 25", x.of(25, 4), 3);
    }

    static void ofWhat() {
        due.sentence(5, "As of mend() (0 to 7)");
        HotStack x = Due.threeCells(null);
        for (int what : Due.beyond(0, 8)) {
            due.due("what " + what, x.of(5, what), BAD);
            due.due("what " + what + " of 0", x.of(0, what), BAD);
        }
        int[] want = {4, 20, 99, 0, 1, 0};
        for (int what = 0; what <= 5; what++) {
            due.due("of(5, " + what + ")", x.of(5, what), want[what]);
        }
        due.due("GLOWS", x.of(0, 6), 90);
        due.due("DAY", x.of(0, 7), 0);
    }

    static void ofHigh() {
        due.sentence(5, "of a COLUMN 8 HIGH");
        HotStack x = Due.threeCells(null);
        for (int column : Due.beyond(0, 5)) {
            due.due("HIGH of " + column, x.of(column, 8), BAD);
        }
        int[] high = {0, 2, 0, 0, 0, 1};
        for (int column = 0; column <= 5; column++) {
            due.due("HIGH of " + column, x.of(column, 8), high[column]);
        }
    }

    static void ofChimney() {
        due.sentence(5, "COLUMNS 0 .. 5");
        HotStack x = Due.threeCells(null);
        for (int column : Due.beyond(0, 5)) {
            due.due("CHIMNEY of " + column, x.of(column, 5), BAD);
        }
        x.mend(0, 5, 1);
        x.mend(5, 5, 1);
        int[] chimneys = {1, 0, 0, 0, 0, 1};
        for (int column = 0; column <= 5; column++) {
            due.due("CHIMNEY of " + column, x.of(column, 5), chimneys[column]);
        }
    }

    static void ofNumberZero() {
        due.sentence(5, "(7; number 0 for these, another: BAD)");
        HotStack x = Due.threeCells(null);
        for (int number : new int[] {1, -1, 5, 6, 7, 25, 65536, 256, Integer.MIN_VALUE, Integer.MAX_VALUE}) {
            due.due("GLOWS of " + number, x.of(number, 6), BAD);
            due.due("DAY of " + number, x.of(number, 7), BAD);
        }
    }

    // ---- promise 6: feed

    static void feedBytes() {
        due.sentence(6, "A byte (0 .. 255) comes to THE TAPE");
        HotStack x = new HotStack();
        for (int letter : Due.beyond(0, 255)) {
            due.due("feed " + letter, x.feed(letter), BAD);
        }
        due.due("none came", x.count(2), 0);
        due.due("feed 0", x.feed(0), 1);
        due.due("feed 255", x.feed(255), 2);
    }

    static void feedHowMany() {
        due.sentence(6, "how many it has");
        HotStack x = new HotStack();
        for (int i = 1; i <= 5; i++) {
            due.due("feed", x.feed('d'), i);
            due.due("bytes", x.count(2), i);
        }
    }

    static void feedFull() {
        due.sentence(6, "BAD, FULL (120)");
        HotStack x = new HotStack();
        for (int i = 1; i <= 120; i++) {
            due.due("feed", x.feed(i % 2 == 0 || i == 1 ? '1' : '-'), i);
        }
        due.due("the 121st", x.feed('+'), FULL);
        due.due("the 121st, no byte", x.feed(256), BAD);
        due.due("the 121st, no byte", x.feed(-1), BAD);
        due.due("bytes", x.count(2), 120);
        due.due("11 less 59 times 1, and nothing behind it", x.law(), 1);
        x.cart(0, 0);
        due.due("it counts", x.heats(0), -20);
        due.due("it is empty", x.count(2), 0);
        due.due("a byte comes again", x.feed('l'), 1);
    }

    // ---- promise 7: law

    private static void text(String text) {
        HotStack x = Due.stack("3", 0);
        due.due("law of " + text, Due.tell(x, text), 1);
    }

    private static void fault(String text, int place) {
        HotStack x = Due.stack("3", 0);
        due.due("law of " + text, Due.tell(x, text), -100 - place);
        due.due("the law stays", x.heats(0), 3);
    }

    private static String times(String part, int n) {
        StringBuilder b = new StringBuilder();
        for (int i = 0; i < n; i++) {
            b.append(part);
        }
        return b.toString();
    }

    static void lawBecomes() {
        due.sentence(7, "THE TAPE becomes THE LAW: 1");
        HotStack x = Due.stack(null, 70);
        due.due("without a text: 14 less 3", x.heats(0), 11);
        due.due("a text", Due.tell(x, "d+1"), 1);
        due.due("heats by it", x.heats(0), 8);
        due.due("a shorter one", Due.tell(x, "2"), 1);
        due.due("heats by it", x.heats(0), 2);
        due.due("bytes alone tell nothing", x.feed('9'), 1);
        due.due("heats by the law", x.heats(0), 2);
    }

    static void lawFaultAnswer() {
        due.sentence(7, "-100 less its FAULT");
        fault("x", 0);
        fault("dx", 1);
        fault(times("1+", 59) + "x", 118);
        fault(times("1+", 59) + "1x", 119);
    }

    static void lawEmptiesTheTape() {
        due.sentence(7, "THE TAPE is empty then");
        HotStack x = Due.stack(null, 70);
        Due.tell(x, "d");
        due.due("behind a law", x.count(2), 0);
        Due.tell(x, "d+");
        due.due("behind a fault at its end", x.count(2), 0);
        Due.tell(x, "?+7");
        due.due("behind a fault at its begin", x.count(2), 0);
        due.due("an empty text is none", x.law(), -100);
        due.due("the first byte comes again", x.feed('5'), 1);
        due.due("nothing of the old is left", x.law(), 1);
        due.due("heats by 5", x.heats(0), 5);
    }

    static void lawLongest() {
        due.sentence(7, "THE LAW is a TEXT by THE TAPE (at most 120 bytes)");
        text("1" + times("-1", 59));
        text(times("0?1;", 29) + "l+30");
        HotStack x = Due.stack(null, 70);
        due.due("120 bytes", Due.tell(x, times("0?1;", 29) + "9-31"), 1);
        due.due("the last of them count", x.heats(0), -20);
        due.due("120 bytes", Due.tell(x, "7" + times("+0", 58) + "*0"), 1);
        due.due("the last of them count", x.heats(0), 7);
        due.due("120 bytes", Due.tell(x, times("!!!!!!0&", 15).substring(0, 119) + "&"), -220);
        due.due("119 bytes", Due.tell(x, times("!!!!!!1&", 15).substring(0, 119)), 1);
        due.due("heats by it", x.heats(0), 1);
    }

    static void lawLines() {
        due.sentence(7, "LINES, one or more, parted by ;");
        text("d");
        text("d;h");
        text(times("d;", 59) + "d");
        fault("", 0);
        fault(";", 0);
        fault(";d", 0);
        fault("d;", 2);
        fault("d;;h", 2);
        fault("d,h", 1);
        fault("(d;h)", 2);
        fault(times("d;", 60), 120);
    }

    static void lawLine() {
        due.sentence(7, "LINE: E, or E ? E");
        text("d?h");
        text("d?h;a?s;n?l");
        fault("?d", 0);
        fault("d?", 2);
        fault("d?;h", 2);
        fault("d?h?a", 3);
        fault("d?h;?a", 4);
        fault("(d?h)", 2);
        fault("d?(h?a)", 4);
    }

    static void lawOrs() {
        due.sentence(7, "E = A { | A }");
        text("d|h|a|s");
        fault("|d", 0);
        fault("d|", 2);
        fault("d||h", 2);
    }

    static void lawAnds() {
        due.sentence(7, "A = B { & B }");
        text("d&h&a&s");
        fault("&d", 0);
        fault("d&", 2);
        fault("d&&h", 2);
    }

    static void lawComparisons() {
        due.sentence(7, "B = S, or S < S, S = S, S > S");
        text("d<h");
        text("d=h");
        text("d>h");
        text("d<h&h>a|a=s");
        text("(d<h)<(a>s)");
        fault("d<h<a", 3);
        fault("d<h=a", 3);
        fault("d=h>a", 3);
        fault("d>h+1<a", 5);
        fault("(d<h>a)", 4);
        fault("d<", 2);
        fault("<d", 0);
        fault("d<=h", 2);
        fault("d=", 2);
        fault("d!=h", 1);
    }

    static void lawSums() {
        due.sentence(7, "S = P { + P, - P }");
        text("d+h-a+s-n");
        text("d--h");
        text("d-!h");
        fault("+d", 0);
        fault("d+", 2);
        fault("d-", 2);
        fault("d++h", 2);
        fault("d-+h", 2);
    }

    static void lawProducts() {
        due.sentence(7, "P = O { * O, / O, % O }");
        text("d*h/a%s*n");
        text("d*-h");
        text("d/!h");
        fault("*d", 0);
        fault("/d", 0);
        fault("%d", 0);
        fault("d*", 2);
        fault("d**h", 2);
        fault("d/%h", 2);
    }

    static void lawNumbers() {
        due.sentence(7, "a number (1 to 4 digits)");
        text("0");
        text("9999");
        text("0000");
        text("1234+5678");
        fault("00000", 4);
        fault("12345", 4);
        fault("1+99999", 6);
        fault("99999999", 4);
        fault("1d", 1);
        fault("1234d", 4);
        HotStack x = Due.stack("9999-9989", 0);
        due.due("all four digits count", x.heats(0), 10);
        due.due("with noughts ahead", Due.tell(x, "0007"), 1);
        due.due("7", x.heats(0), 7);
    }

    static void lawNames() {
        due.sentence(7, "NAMES: d DAMP, h HEAT, a AIR, s SALT, n");
        text("d+h+a+s+n+l");
        for (int letter = 0; letter <= 255; letter++) {
            boolean begins = "dhasnl".indexOf(letter) >= 0 || letter >= '0' && letter <= '9';
            boolean opens = "(!-".indexOf(letter) >= 0;
            HotStack x = new HotStack();
            x.feed(letter);
            due.due("a text of the byte " + letter, x.law(), begins ? 1 : opens ? -101 : -100);
        }
        fault("dh", 1);
        fault("dd", 1);
    }

    static void lawEachByteBehindAName() {
        due.sentence(7, "the place (from 0) of the first byte with which no TEXT goes on");
        for (int letter = 0; letter <= 255; letter++) {
            boolean joins = "|&<=>+-*/%?;".indexOf(letter) >= 0;
            HotStack x = new HotStack();
            x.feed('d');
            x.feed(letter);
            due.due("a text of d and the byte " + letter, x.law(), joins ? -102 : -101);
            x.feed('7');
            x.feed(letter);
            due.due("a text of 7 and the byte " + letter, x.law(),
                letter >= '0' && letter <= '9' ? 1 : joins ? -102 : -101);
            x.feed('(');
            x.feed('d');
            x.feed(letter);
            boolean inside = "|&<=>+-*/%".indexOf(letter) >= 0;
            due.due("a text of (d and the byte " + letter, x.law(), letter == ')' ? 1 : inside ? -103 : -102);
        }
    }

    static void lawOpened() {
        due.sentence(7, "! O, - O, ( E )");
        text("!d");
        text("-d");
        text("(d)");
        text("-(!(-d))");
        fault("!", 1);
        fault("-", 1);
        fault("(", 1);
        fault("()", 1);
        fault("(d", 2);
        fault("(d+", 3);
        fault(")", 0);
        fault("d)", 1);
        fault("(d))", 3);
        fault("!)", 1);
        fault("-+d", 1);
        fault("d(h)", 1);
        fault("(d)(h)", 3);
        fault("(d)h", 3);
        fault("d!", 1);
        fault("[d]", 0);
    }

    static void lawBlanks() {
        due.sentence(7, "No blanks.");
        fault(" ", 0);
        fault(" d", 0);
        fault("d ", 1);
        fault("d +h", 1);
        fault("d+ h", 2);
        fault("1 2", 1);
        fault("d;\th", 2);
        fault("d\n", 1);
    }

    static void lawOpenAtOnce() {
        due.sentence(7, "At most 6 of ( ! - ahead of an O are open at once.");
        for (String opener : new String[] {"(", "!", "-"}) {
            String closer = opener.equals("(") ? ")" : "";
            text(times(opener, 6) + "d" + times(closer, 6));
            fault(times(opener, 7) + "d" + times(closer, 7), 6);
            text("1+" + times(opener, 6) + "d" + times(closer, 6) + "+" + times(opener, 6) + "d" + times(closer, 6));
            text(times(opener, 6) + "d" + times(closer, 6) + "?" + times(opener, 6) + "d" + times(closer, 6));
            text(times(opener, 6) + "d" + times(closer, 6) + ";" + times(opener, 6) + "d" + times(closer, 6));
            fault("d-" + times(opener, 7), 8);
        }
        text("(!-(!-d))");
        fault("(!-(!-(d)))", 6);
        fault("(!-(!-!d))", 6);
        fault("(!-(!--d))", 6);
        text("((((((d-h))))))");
        text("(((((d)+(h))-(a))*(s)))");
        text("((((-d-(-h)-(-1)))))");
        fault("(((((-d-(-h)))))", 9);
        fault("((((((-d", 6);
        fault("(((((d+(h+(a", 10);
        text("------1-------1");
        fault("------1--------1", 14);
        fault(times("(", 6), 6);
        fault(times("(", 7), 6);
    }

    static void lawTooEarly() {
        due.sentence(7, "the length, if it ends too early");
        fault("", 0);
        fault("(", 1);
        fault("((((((", 6);
        fault("d+", 2);
        fault("d?", 2);
        fault("d;", 2);
        fault("(d", 2);
        fault("((d)", 4);
        fault("d<", 2);
        fault("!-(", 3);
        fault("d+h*", 4);
        fault(times("d+", 60), 120);
    }

    static void lawOfAFaultStays() {
        due.sentence(7, "THE TAPE becomes THE LAW: 1; -100 less its FAULT");
        HotStack x = Due.stack(null, 70);
        due.due("a fault", Due.tell(x, "9+"), -102);
        due.due("without a text still: 14 less 3", x.heats(0), 11);
    }

    // ---- promise 8: heats

    static void heatsCellsThatAreThere() {
        due.sentence(8, "VOID: BAD.");
        HotStack x = Due.threeCells("7");
        for (int cell : Due.noCells()) {
            due.due("heats(" + cell + ")", x.heats(cell), VOID);
        }
        due.due("5", x.heats(5), 7);
        due.due("6", x.heats(6), 7);
        due.due("25", x.heats(25), 7);
        due.due("without a text, too", Due.threeCells(null).heats(7), VOID);
    }

    private static void gives(String law, int want) {
        HotStack x = Due.stack(null, 75);
        due.due("the text " + law, Due.tell(x, law), 1);
        due.due("heats by " + law, x.heats(0), want);
    }

    static void heatsHeld() {
        due.sentence(8, "(held within -20 .. 20)");
        gives("19", 19);
        gives("20", 20);
        gives("21", 20);
        gives("9999", 20);
        gives("-19", -19);
        gives("-20", -20);
        gives("-21", -20);
        gives("-9999", -20);
        gives("9999*9999*21", 20);
        gives("0-9999*9999*21", -20);
        gives("0", 0);
        HotStack x = Due.stack("h-50", 0);
        x.mend(0, 1, 99);
        due.due("49", x.heats(0), 20);
        x.mend(0, 1, 0);
        due.due("-50", x.heats(0), -20);
    }

    static void heatsMeanBeside() {
        due.sentence(8, "n the mean HEAT of CELLS BESIDE it (cut; none: 20)");
        HotStack x = Due.stack("n-50", 200);
        due.due("none beside: 20", x.heats(10), -20);
        Due.tell(x, "n-20");
        x.mend(10, 1, 77);
        due.due("none beside: 20, whatever it is itself", x.heats(10), 0);
        x.cart(2, 0);
        x.mend(11, 1, 21);
        due.due("one: 21", x.heats(10), 1);
        x.cart(1, 0);
        x.mend(5, 1, 22);
        due.due("two, 43: 21", x.heats(10), 1);
        x.cart(3, 0);
        x.mend(15, 1, 25);
        due.due("three, 68: 22", x.heats(10), 2);
        x.mend(15, 1, 0);
        x.mend(5, 1, 0);
        x.mend(11, 1, 2);
        Due.tell(x, "n");
        due.due("three, 2: 0", x.heats(10), 0);
    }

    static void heatsBeside() {
        due.sentence(8, "BESIDE a CELL are those that are there above and below it in its COLUMN, and of its LAYER in the "
            + "COLUMNS next to it.");
        // COLUMN 0 is full, COLUMN 1 has two, COLUMN 2 has one.
        HotStack x = Due.stack("n-20", 0, 0, 0, 0, 0, 100, 100, 200);
        x.mend(4, 1, 40);
        due.due("4 is not beside 5, whose number follows", x.heats(5), 0);
        due.due("4 is beside 3 (with 2; 30)", x.heats(3), 10);
        due.due("3 alone is beside 4: above LAYER 4 is nothing", x.heats(4), 0);
        x.mend(5, 1, 32);
        due.due("5 is not beside 4", x.heats(4), 0);
        due.due("5 is beside 0 (with 1; 26)", x.heats(0), 6);
        due.due("5 is beside 10 alone", x.heats(10), 12);
        due.due("5 is beside 6 (with 1; 26)", x.heats(6), 6);
        x.mend(10, 1, 38);
        due.due("10 is beside 5 (with 0, 6; 26)", x.heats(5), 6);
        due.due("10 is not beside 6, nor above it", x.heats(6), 6);
        HotStack y = Due.stack("n-20", 400, 400, 500, 500);
        y.mend(26, 1, 30);
        y.mend(20, 1, 34);
        due.due("25: of 26, 20: 32", y.heats(25), 12);
        due.due("26: of 25, 21: 20", y.heats(26), 0);
        due.due("21: of 20, 26: 32", y.heats(21), 12);
    }

    static void heatsAir() {
        due.sentence(8, "AIR of a CELL: of above, left, right how many are not there");
        HotStack x = Due.stack("a", 200);
        due.due("alone", x.heats(10), 3);
        x.cart(1, 0);
        due.due("left is there", x.heats(10), 2);
        x.cart(3, 0);
        due.due("right, too", x.heats(10), 1);
        x.cart(2, 0);
        due.due("above, too", x.heats(10), 0);
        due.due("the one above: none beside it", x.heats(11), 3);
        x.cart(1, 0);
        due.due("left of it, too", x.heats(11), 2);
    }

    static void heatsAirBeyondColumns() {
        due.sentence(8, "(beyond COLUMNS 0, 5, too;");
        HotStack x = Due.stack("a", 0, 0, 100, 100, 400, 400, 500, 500);
        due.due("left of COLUMN 0", x.heats(0), 1);
        due.due("right of COLUMN 5", x.heats(25), 1);
        due.due("left of COLUMN 0, and above", x.heats(1), 2);
        due.due("right of COLUMN 5, and above", x.heats(26), 2);
        due.due("right of COLUMN 1", x.heats(5), 1);
        due.due("left of COLUMN 4", x.heats(20), 1);
    }

    static void heatsAirAboveLayers() {
        due.sentence(8, "above LAYER 4, too)");
        HotStack x = Due.stack("a", 0, 0, 0, 0, 0, 100, 100, 100, 100, 100, 200, 200, 200, 200, 200);
        due.due("above LAYER 4 of COLUMN 1", x.heats(9), 1);
        due.due("above LAYER 3 is LAYER 4", x.heats(8), 0);
        due.due("above LAYER 4 of COLUMN 0", x.heats(4), 2);
    }

    static void heatsAirByAChimney() {
        due.sentence(8, "and 2 more, if its COLUMN has a CHIMNEY");
        HotStack x = Due.stack("a", 0, 0, 100);
        x.mend(0, 5, 1);
        due.due("with a chimney", x.heats(1), 5);
        due.due("with a chimney", x.heats(0), 3);
        due.due("the COLUMN next to it has none", x.heats(5), 2);
        x.mend(0, 5, 0);
        due.due("without it", x.heats(1), 3);
    }

    static void heatsNoAirBelow() {
        due.sentence(8, "what lies below a CELL is no AIR");
        HotStack x = Due.stack("a", 0, 0, 0, 100, 100, 100, 200, 200, 200);
        due.due("on the ground", x.heats(5), 0);
        due.due("on a cell", x.heats(6), 0);
        due.due("the top", x.heats(7), 1);
    }

    static void heatsInts() {
        due.sentence(8, "Ints that wrap");
        // 9999 * 9999 * 43 is 4299140043, which is 4172747 beyond all ints; times 22 it is below 0.
        gives("9999*9999*43-4173*1000+260", 7);
        gives("9999*9999*22<0", 1);
        gives("9999*9999*21>0", 1);
        gives("0-9999*9999*22>0", 1);
        gives("9999*9999*21+9999*9999<0", 1);
        gives("0-9999*9999*21-9999*9999>0", 1);
        gives("4096*4096*256", 0);
        gives("-(4096*4096*128)=4096*4096*128", 1);
        gives("4096*4096*128-1>0", 1);
    }

    static void heatsTowardZero() {
        due.sentence(8, "/ and % toward 0, by 0 they give 0");
        gives("7/2", 3);
        gives("-7/2", -3);
        gives("7/-2", -3);
        gives("-7/-2", 3);
        gives("7%3", 1);
        gives("-7%3", -1);
        gives("7%-3", 1);
        gives("-7%-3", -1);
        gives("7/0", 0);
        gives("7%0", 0);
        gives("0/0", 0);
        gives("0%0", 0);
        gives("1+7/(d-7)", 1);
        gives("1+7%(d-7)", 1);
        gives("4096*4096*128/-1<0", 1);
        gives("4096*4096*128%-1", 0);
    }

    static void heatsOneOrNought() {
        due.sentence(8, "| & < = > ! give 1, 0; all is worked out");
        gives("7|0", 1);
        gives("0|-7", 1);
        gives("7|9", 1);
        gives("0|0", 0);
        gives("7&-9", 1);
        gives("7&0", 0);
        gives("0&7", 0);
        gives("0&0", 0);
        gives("3<4", 1);
        gives("4<4", 0);
        gives("5<4", 0);
        gives("4=4", 1);
        gives("4=5", 0);
        gives("4>3", 1);
        gives("4>4", 0);
        gives("3>4", 0);
        gives("!0", 1);
        gives("!7", 0);
        gives("!-7", 0);
        gives("1|1/0", 1);
        gives("0&1%0", 0);
        gives("1|(1/0)", 1);
    }

    static void heatsLineThatCounts() {
        due.sentence(8, "The first LINE without a first E, or whose first E is not 0, counts; none: 0.");
        gives("5;6", 5);
        gives("0;6", 0);
        gives("0?5;6", 6);
        gives("1?5;6", 5);
        gives("-1?5;6", 5);
        gives("7?5;6", 5);
        gives("0?5;0?6;7;8", 7);
        gives("0?5;2?6;7", 6);
        gives("1?0;6", 0);
        gives("0?5", 0);
        gives("0?5;0?6", 0);
        gives("4/5?5;6", 6);
    }

    static void heatsNames() {
        due.sentence(8, "d DAMP, h HEAT, a AIR, s SALT, n the mean HEAT of CELLS BESIDE it (cut; none: 20), l LAYER");
        HotStack x = Due.stack(null, 0, 0, 0, 0, 90);
        x.mend(4, 1, 99);
        x.mend(3, 1, 98);
        x.mend(4, 3, 1);
        x.mend(0, 5, 1);
        String[] laws = {"d", "h-90", "a", "s", "n-90", "l"};
        int[] top = {9, 9, 5, 1, 8, 4};
        int[] ground = {0, -20, 4, 0, -20, 0};
        for (int i = 0; i < laws.length; i++) {
            Due.tell(x, laws[i]);
            due.due(laws[i] + " of the top", x.heats(4), top[i]);
            due.due(laws[i] + " of the ground", x.heats(0), ground[i]);
        }
    }

    static void heatsWithoutAText() {
        due.sentence(8, "Without a text: 2 times d, less a, less 4 times s, and (n less h) by 4 (cut toward 0).");
        HotStack x = Due.stack(null, 250);
        due.due("10 less 3", x.heats(10), 7);
        x.mend(10, 1, 23);
        due.due("(20 - 23) by 4 is 0", x.heats(10), 7);
        x.mend(10, 1, 24);
        due.due("(20 - 24) by 4 is -1", x.heats(10), 6);
        x.mend(10, 1, 27);
        due.due("(20 - 27) by 4 is -1", x.heats(10), 6);
        x.mend(10, 1, 17);
        due.due("(20 - 17) by 4 is 0", x.heats(10), 7);
        x.mend(10, 1, 16);
        due.due("(20 - 16) by 4 is 1", x.heats(10), 8);
        x.mend(10, 1, 20);
        x.mend(10, 3, 1);
        due.due("salted", x.heats(10), 3);
        x.mend(2, 5, 1);
        due.due("a chimney", x.heats(10), 1);
        x.mend(10, 0, 0);
        due.due("dry", x.heats(10), -9);
        x.mend(10, 0, 9);
        due.due("DAMP 9", x.heats(10), 9);
    }

    static void heatsAlterNothing() {
        due.sentence(8, "By how much a CELL would heat today.");
        HotStack x = Due.withAll();
        for (int cell = 0; cell < 30; cell++) {
            x.heats(cell);
        }
        due.isAsWithAll(x);
    }
}
