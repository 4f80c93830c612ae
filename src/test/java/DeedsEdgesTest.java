/** The sentences of promises 25 to 33, and of what is said of them ahead, that name a boundary: a method for each. */
public final class DeedsEdgesTest {
    private static final int BAD = -1, NOT = -2, STATE = -5;
    private static final Due due = new Due();

    public static void main(String[] args) {
        due.sentencesOf(DeedsEdgesTest.class, 25, 33);
        due.finish("DeedsEdgesTest");
    }

    // ---- promise 25: turned

    static void turnedColumns() {
        due.sentence(25, "A COLUMN is TURNED: how many CELLS it has. BAD.");
        HotStack x = Due.stack(null, 0, 0, 0, 0, 0, 100, 100, 200, 500);
        for (int column : Due.beyond(0, 5)) {
            due.due("turned(" + column + ")", x.turned(column), BAD);
        }
        due.due("BAD does not count", x.led(1), 0);
        int[] many = {5, 2, 1, 0, 0, 1};
        for (int column = 0; column <= 5; column++) {
            due.due("turned(" + column + ")", x.turned(column), many[column]);
        }
        due.due("turned", x.led(1), 6);
    }

    static void turnedCells() {
        due.sentence(25, "(HEAT of their CELLS 20, DAMP one less, 0 at least)");
        HotStack x = Due.stack(null, 90, 10, 0, 50, 60, 150, 170);
        int[] heats = {0, 99, 20, 21, 19};
        for (int i = 0; i < 5; i++) {
            x.mend(i, 1, heats[i]);
            x.mend(i, 2, 50 + i);
        }
        x.mend(5, 1, 77);
        x.turned(0);
        int[] damps = {8, 0, 0, 4, 5};
        for (int i = 0; i < 5; i++) {
            due.due("HEAT of " + i, x.of(i, 1), 20);
            due.due("DAMP of " + i, x.of(i, 0), damps[i]);
            due.due("GOOD of " + i, x.of(i, 2), 50 + i);
        }
        due.due("HEAT of the next", x.of(5, 1), 77);
        due.due("DAMP of the next", x.of(5, 0), 5);
        x.turned(0);
        due.due("again", x.of(0, 0), 7);
        due.due("0 at least", x.of(1, 0), 0);
    }

    static void turnedEmpty() {
        due.sentence(25, "turned(), salt() of an empty COLUMN count, too.");
        HotStack x = new HotStack();
        due.due("an empty COLUMN", x.turned(3), 0);
        due.due("turned", x.led(1), 1);
        due.due("an empty COLUMN", x.salt(3), 0);
        due.due("salted", x.led(2), 1);
        x.image();
        x.cart(3, 50);
        x.back();
        due.due("empty again", x.turned(3), 0);
        x.cart(3, 50);
        due.due("what comes is not turned", x.of(15, 0), 5);
    }

    static void turnedRefused() {
        due.sentence(25, "What is answered so changes nothing.");
        HotStack x = Due.withAll();
        x.turned(6);
        x.turned(-1);
        x.salt(6);
        x.salt(-1);
        x.read(9);
        x.read(-1);
        x.led(6);
        x.led(-1);
        due.isAsWithAll(x);
    }

    // ---- promise 26: salt

    static void saltColumns() {
        due.sentence(26, "A COLUMN is SALTED: how many CELLS it has. BAD.");
        HotStack x = Due.stack(null, 0, 0, 0, 0, 0, 100, 100, 200, 500);
        for (int column : Due.beyond(0, 5)) {
            due.due("salt(" + column + ")", x.salt(column), BAD);
        }
        due.due("BAD does not count", x.led(2), 0);
        int[] many = {5, 2, 1, 0, 0, 1};
        for (int column = 0; column <= 5; column++) {
            due.due("salt(" + column + ")", x.salt(column), many[column]);
        }
        due.due("salted", x.led(2), 6);
    }

    static void saltCells() {
        due.sentence(26, "a COLUMN is TURNED, SALTED (all its CELLS)");
        HotStack x = Due.stack(null, 0, 0, 0, 0, 0, 100, 100, 100, 200);
        x.mend(6, 3, 1);
        x.salt(0);
        for (int cell = 0; cell <= 4; cell++) {
            due.due("SALT of " + cell, x.of(cell, 3), 1);
        }
        due.due("SALT of 5", x.of(5, 3), 0);
        due.due("SALT of 6", x.of(6, 3), 1);
        due.due("SALT of 7", x.of(7, 3), 0);
        x.salt(1);
        due.due("1 stays", x.of(6, 3), 1);
        due.due("SALT of 7", x.of(7, 3), 1);
        due.due("SALT of 10", x.of(10, 3), 0);
        due.due("again", x.salt(1), 3);
        due.due("1 stays", x.of(6, 3), 1);
        x.cart(1, 0);
        due.due("what comes then is not", x.of(8, 3), 0);
    }

    static void saltEmpty() {
        due.sentence(26, "salt() of an empty COLUMN count, too.");
        HotStack x = new HotStack();
        due.due("an empty COLUMN", x.salt(5), 0);
        due.due("an empty COLUMN", x.salt(5), 0);
        due.due("salted", x.led(2), 2);
        x.cart(5, 0);
        due.due("what comes is not", x.of(25, 3), 0);
    }

    // ---- promise 27: read

    static void readCells() {
        due.sentence(27, "A rod READS a CELL: HEAT. BAD.");
        HotStack x = Due.threeCells(null);
        for (int cell : Due.noCells()) {
            due.due("read(" + cell + ")", x.read(cell), BAD);
        }
        due.due("BAD does not count", x.led(3), 0);
        due.due("none read", x.led(5), NOT);
        x.mend(5, 1, 0);
        x.mend(25, 1, 99);
        due.due("0", x.read(5), 0);
        due.due("20", x.read(6), 20);
        due.due("99", x.read(25), 99);
        due.due("read", x.led(3), 3);
    }

    static void readHottest() {
        due.sentence(27, "the hottest read (NOT: none)");
        HotStack x = Due.threeCells(null);
        x.mend(5, 1, 0);
        x.mend(6, 1, 99);
        due.due("none", x.led(5), NOT);
        x.read(5);
        due.due("0 is one", x.led(5), 0);
        x.read(25);
        due.due("20", x.led(5), 20);
        x.read(5);
        due.due("20 stays", x.led(5), 20);
        x.read(6);
        due.due("99", x.led(5), 99);
        x.mend(6, 1, 1);
        x.read(6);
        due.due("99 stays", x.led(5), 99);
        due.due("read", x.led(3), 5);
    }

    // ---- promise 28: day

    static void dayStays() {
        due.sentence(28, "DAY is one more (99 stays).");
        HotStack x = new HotStack();
        x.day();
        due.due("1", x.of(0, 7), 1);
        x.mend(0, 7, 97);
        x.day();
        due.due("98", x.of(0, 7), 98);
        x.day();
        due.due("99", x.of(0, 7), 99);
        x.day();
        due.due("99 stays", x.of(0, 7), 99);
        due.due("days", x.led(4), 4);
        HotStack y = new HotStack();
        for (int i = 1; i <= 120; i++) {
            y.day();
            due.due("DAY", y.of(0, 7), Math.min(99, i));
        }
        due.due("days", y.led(4), 120);
    }

    static void dayGlow() {
        due.sentence(28, "A DAY passes: how many GLOW then.");
        HotStack x = Due.threeCells("1");
        x.mend(5, 1, 88);
        x.mend(6, 1, 89);
        due.due("89, 90, 21", x.day(), 1);
        due.due("90, 91, 22", x.day(), 2);
        HotStack y = Due.threeCells("-1");
        y.mend(5, 1, 90);
        y.mend(6, 1, 91);
        due.due("89, 90", y.day(), 1);
        due.due("88, 89", y.day(), 0);
        due.due("no cells", new HotStack().day(), 0);
    }

    static void dayHeat() {
        due.sentence(28, "HEAT of each CELL that is there is so much more (within 0 .. 99)");
        HotStack x = Due.threeCells("l?20;-20");
        x.mend(5, 1, 19);
        x.mend(6, 1, 80);
        x.day();
        due.due("0, not -1", x.of(5, 1), 0);
        due.due("99, not 100", x.of(6, 1), 99);
        x.day();
        due.due("0 stays", x.of(5, 1), 0);
        due.due("99 stays", x.of(6, 1), 99);
        due.due("nothing comes where nothing is", x.of(7, 1), BAD);
        due.due("carted then, it is 20", x.cart(1, 0) == 7 ? x.of(7, 1) : -9, 20);
    }

    static void dayGood() {
        due.sentence(28, "GOOD of one with HEAT 40 or more then is less by HEAT by 20 (cut), 0 at least");
        HotStack x = Due.stack("0", 0, 100, 200, 300, 400, 500);
        int[] heats = {39, 40, 59, 60, 99, 99};
        for (int column = 0; column <= 5; column++) {
            x.mend(5 * column, 1, heats[column]);
        }
        x.mend(25, 2, 3);
        x.day();
        int[] goods = {99, 97, 97, 96, 95, 0};
        for (int column = 0; column <= 5; column++) {
            due.due("GOOD of HEAT " + heats[column], x.of(5 * column, 2), goods[column]);
        }
        x.day();
        due.due("0 stays", x.of(25, 2), 0);
        due.due("95 less 4", x.of(20, 2), 91);
    }

    static void dayDamp() {
        due.sentence(28, "DAMP of one with HEAT 50 or more then is one less (0 at least)");
        HotStack x = Due.stack("0", 50, 150, 250, 310, 400, 590);
        int[] heats = {49, 50, 99, 50, 50, 40};
        for (int column = 0; column <= 5; column++) {
            x.mend(5 * column, 1, heats[column]);
        }
        x.day();
        int[] damps = {5, 4, 4, 0, 0, 9};
        for (int column = 0; column <= 5; column++) {
            due.due("DAMP of HEAT " + heats[column], x.of(5 * column, 0), damps[column]);
        }
        x.day();
        due.due("0 stays", x.of(15, 0), 0);
        due.due("3", x.of(10, 0), 3);
    }

    static void dayAsItBegins() {
        due.sentence(28, "A DAY, all as they stand when it begins");
        HotStack x = Due.stack("n-h", 0, 100, 200);
        x.mend(0, 1, 30);
        x.mend(5, 1, 40);
        x.mend(10, 1, 25);
        x.day();
        due.due("what 5 was", x.of(0, 1), 40);
        due.due("(30 + 25) / 2", x.of(5, 1), 27);
        due.due("what 5 was", x.of(10, 1), 40);
    }

    // ---- promise 29: led

    static void ledWhat() {
        due.sentence(29, "LED: carted (what 0), turned (1), salted (2), read (3), days (4), the hottest read (5; NOT). BAD.");
        HotStack x = Due.threeCells("0");
        for (int what : Due.beyond(0, 5)) {
            due.due("led(" + what + ")", x.led(what), BAD);
        }
        due.due("none read", x.led(5), NOT);
        x.turned(0);
        x.turned(0);
        x.salt(0);
        for (int i = 0; i < 4; i++) {
            x.read(5);
        }
        for (int i = 0; i < 5; i++) {
            x.day();
        }
        int[] want = {3, 2, 1, 4, 5, 20};
        for (int what = 0; what <= 5; what++) {
            due.due("led(" + what + ")", x.led(what), want[what]);
        }
    }

    static void ledNotInThought() {
        due.sentence(29, "IN DEED: a load is CARTED (onto a COLUMN); a COLUMN is TURNED, SALTED (all its CELLS); a rod READS a "
            + "CELL; a DAY passes.");
        HotStack x = Due.threeCells("1");
        Due.bytes(x, 0, 20, 21);
        x.judge(0, 5);
        x.book(0, 505, 0);
        x.lay(0, 3, -1);
        x.turn(3, 3, 0);
        x.later(9, 5, 0);
        x.drawn(1, 10101, 0);
        x.byTurns(39, 0);
        x.cart(6, 0);
        x.cart(0, 100);
        x.turned(6);
        x.salt(-1);
        x.read(0);
        x.mend(5, 3, 1);
        x.mend(5, 1, 99);
        int[] want = {3, 0, 0, 0, 0, NOT};
        for (int what = 0; what <= 5; what++) {
            due.due("led(" + what + ")", x.led(what), want[what]);
        }
    }

    // ---- promises 30, 31: image, back

    static void imageAnswers() {
        due.sentence(30, "AN IMAGE is kept: days.");
        HotStack x = new HotStack();
        due.due("none passed", x.image(), 0);
        x.day();
        x.day();
        due.due("two", x.image(), 2);
        due.due("two still", x.image(), 2);
        x.mend(0, 7, 50);
        due.due("days, as LED tells them, not DAY", x.image(), 2);
        x.day();
        x.back();
        due.due("two again", x.image(), 2);
        for (int i = 0; i < 100; i++) {
            x.day();
        }
        due.due("beyond 99", x.image(), 102);
    }

    static void imageKeeps() {
        due.sentence(30, "AN IMAGE keeps HIGH, all numbers of CELLS, DAY, what LED tells.");
        HotStack x = Due.threeCells("9");
        x.mend(5, 1, 60);
        x.mend(5, 2, 50);
        x.mend(5, 3, 1);
        x.mend(0, 7, 7);
        x.read(5);
        due.due("image", x.image(), 0);
        x.mend(5, 0, 9);
        x.mend(5, 2, 2);
        x.mend(5, 3, 0);
        x.mend(5, 4, 9);
        x.cart(1, 99);
        x.cart(3, 99);
        x.day();
        x.turned(1);
        x.salt(5);
        x.mend(25, 1, 99);
        x.read(25);
        due.due("back", x.back(), 0);
        int[] want = {4, 60, 50, 1, 1};
        for (int what = 0; what <= 4; what++) {
            due.due("of(5, " + what + ")", x.of(5, what), want[what]);
        }
        due.due("HIGH of 1", x.of(1, 8), 2);
        due.due("HIGH of 3", x.of(3, 8), 0);
        due.due("HEAT of 25", x.of(25, 1), 20);
        due.due("SALT of 25", x.of(25, 3), 0);
        due.due("DAY", x.of(0, 7), 7);
        int[] led = {3, 0, 0, 1, 0, 60};
        for (int what = 0; what <= 5; what++) {
            due.due("led(" + what + ")", x.led(what), led[what]);
        }
    }

    static void imageKeepsNoMore() {
        due.sentence(30, "what LED tells.");
        HotStack x = Due.threeCells("9");
        x.feed('d');
        x.image();
        x.mend(1, 5, 1);
        x.mend(0, 6, 40);
        x.feed('+');
        x.body(3);
        x.act(0, 1, 1);
        x.row(4, 3, 2);
        x.back();
        due.due("CHIMNEY stays", x.of(1, 5), 1);
        due.due("GLOWS stays", x.of(0, 6), 40);
        due.due("THE TAPE stays", x.count(2), 2);
        due.due("changes stay", x.count(3), 2);
        due.due("BODIES stay", x.count(4), 1);
        due.due("THE TRACE stays", x.count(5), 4);
        due.due("SHELVES stay", x.put(4, 1, 1), 1);
        due.due("THE LAW stays", x.heats(5), 9);
        x.feed('1');
        due.due("the tape as it was fed", x.law(), 1);
        x.back();
        due.due("a later law stays: DAMP 4, and 1", x.heats(5), 5);
    }

    static void backOfNone() {
        due.sentence(31, "It is laid back: days. STATE: there is none.");
        HotStack x = Due.threeCells(null);
        x.day();
        due.due("none", x.back(), STATE);
        due.due("changes nothing", x.led(4), 1);
        due.due("changes nothing", x.count(0), 3);
        x.image();
        x.day();
        due.due("one", x.back(), 1);
        due.due("it may be laid back again", x.back(), 1);
        x.cart(0, 0);
        due.due("and again", x.back(), 1);
        due.due("cells", x.count(0), 3);
    }

    static void backToTheLatest() {
        due.sentence(31, "It is laid back: days.");
        HotStack x = Due.stack("1", 0);
        x.image();
        x.day();
        x.image();
        x.day();
        due.due("the later one", x.back(), 1);
        due.due("HEAT", x.of(0, 1), 21);
        x.mend(0, 1, 50);
        due.due("laid back once more", x.back(), 1);
        due.due("it was not touched", x.of(0, 1), 21);
        HotStack y = new HotStack();
        y.image();
        for (int i = 0; i < 30; i++) {
            y.cart(i / 5, 99);
        }
        due.due("an image of nothing", y.back(), 0);
        due.due("no cells", y.count(0), 0);
        due.due("carted", y.led(0), 0);
        due.due("not full any more", y.cart(5, 99), 25);
    }

    static void backUndoesNoChange() {
        due.sentence(31, "CHANGES (all numbers of mend();");
        HotStack x = Due.threeCells(null);
        x.mend(5, 1, 30);
        x.image();
        x.mend(5, 1, 40);
        x.back();
        due.due("HEAT laid back", x.of(5, 1), 30);
        due.due("two changes", x.count(3), 2);
        due.due("undone", x.undo(), 1);
        due.due("what it was ahead of the second", x.of(5, 1), 30);
        due.due("undone", x.undo(), 0);
        due.due("what it was ahead of the first", x.of(5, 1), 20);
        x.back();
        due.due("laid back", x.of(5, 1), 30);
        due.due("done again", x.redo(), 1);
        due.due("done again", x.redo(), 0);
        due.due("40", x.of(5, 1), 40);
    }

    // ---- promises 32, 33: undo, redo

    static void undoNone() {
        due.sentence(32, "UNDONE: how many may still be. STATE: none.");
        HotStack x = Due.threeCells(null);
        due.due("none", x.undo(), STATE);
        x.mend(5, 1, 30);
        x.mend(5, 1, 40);
        due.due("one may still be", x.undo(), 1);
        due.due("none may", x.undo(), 0);
        due.due("none", x.undo(), STATE);
        due.due("changes nothing", x.of(5, 1), 20);
        due.due("two may be done again", x.redo(), 1);
    }

    static void undoLatestFirst() {
        due.sentence(32, "can be UNDONE, the latest first, and DONE AGAIN");
        HotStack x = Due.threeCells(null);
        x.mend(5, 1, 30);
        x.mend(6, 1, 40);
        x.mend(5, 1, 50);
        x.undo();
        due.due("5 is 30", x.of(5, 1), 30);
        due.due("6 is 40", x.of(6, 1), 40);
        x.undo();
        due.due("5 is 30", x.of(5, 1), 30);
        due.due("6 is 20", x.of(6, 1), 20);
        x.undo();
        due.due("5 is 20", x.of(5, 1), 20);
        x.redo();
        due.due("5 is 30", x.of(5, 1), 30);
        due.due("6 is 20", x.of(6, 1), 20);
    }

    static void undoForty() {
        due.sentence(32, "40 at most are kept;");
        HotStack x = Due.threeCells(null);
        for (int i = 1; i <= 39; i++) {
            x.mend(5, 1, 20 + i);
        }
        due.due("39", x.count(3), 39);
        x.mend(5, 1, 60);
        due.due("40", x.count(3), 40);
        x.mend(5, 1, 61);
        due.due("the 41st: 40", x.count(3), 40);
        due.due("39 more", x.undo(), 39);
        due.due("60", x.of(5, 1), 60);
        x.mend(5, 1, 62);
        due.due("40 again", x.count(3), 40);
        for (int i = 39; i >= 0; i--) {
            due.due("undo", x.undo(), i);
        }
        due.due("no more", x.undo(), STATE);
        due.due("the first is not undone", x.of(5, 1), 21);
        for (int i = 39; i >= 0; i--) {
            due.due("redo", x.redo(), i);
        }
        due.due("no more", x.redo(), STATE);
        due.due("the last again", x.of(5, 1), 62);
    }

    static void undoFortyOfManyNumbers() {
        due.sentence(32, "the latest first, and DONE AGAIN (as long as no other came behind); 40 at most are kept");
        HotStack x = Due.stack(null, 50, 150, 250, 350, 450, 550);
        int[] was = new int[48];
        for (int i = 0; i < 48; i++) {
            was[i] = x.mend(5 * (i % 6), i % 5 == 3 ? 1 : 2, i + 1);
        }
        for (int i = 47; i >= 8; i--) {
            due.due("undo", x.undo(), i - 8);
            due.due("as it was", x.of(5 * (i % 6), i % 5 == 3 ? 1 : 2), was[i]);
        }
        due.due("no more", x.undo(), STATE);
        for (int i = 8; i <= 47; i++) {
            due.due("redo", x.redo(), 47 - i);
            due.due("as it became", x.of(5 * (i % 6), i % 5 == 3 ? 1 : 2), i + 1);
        }
    }

    static void undoAllNumbers() {
        due.sentence(32, "CHANGES (all numbers of mend(); telling the same number is none; those of a CELL are of its place, "
            + "whatever lies there by then, seen or not)");
        int[][] all = {{6, 0, 9}, {6, 1, 55}, {6, 2, 44}, {6, 3, 1}, {6, 4, 7}, {3, 5, 1}, {0, 6, 60}, {0, 7, 33}};
        HotStack x = Due.threeCells(null);
        int[] was = new int[8];
        for (int i = 0; i < 8; i++) {
            was[i] = x.mend(all[i][0], all[i][1], all[i][2]);
            due.due("the same number is none", x.mend(all[i][0], all[i][1], all[i][2]), all[i][2]);
            due.due("changes", x.count(3), i + 1);
        }
        for (int i = 7; i >= 0; i--) {
            due.due("undo", x.undo(), i);
            due.due("as it was", x.of(all[i][0], all[i][1]), was[i]);
        }
        for (int i = 0; i < 8; i++) {
            due.due("redo", x.redo(), 7 - i);
            due.due("as it became", x.of(all[i][0], all[i][1]), all[i][2]);
        }
    }

    static void undoUnseen() {
        due.sentence(32, "those of a CELL are of its place, whatever lies there by then, seen or not");
        HotStack x = new HotStack();
        x.image();
        x.cart(3, 15);
        x.mend(15, 0, 6);
        x.mend(15, 4, 9);
        x.back();
        due.due("nothing lies there", x.of(15, 0), BAD);
        due.due("undone unseen", x.undo(), 1);
        due.due("nothing lies there", x.of(15, 0), BAD);
        x.cart(3, 88);
        due.due("another comes as by cart", x.of(15, 4), 8);
        due.due("undone there", x.undo(), 0);
        due.due("DAMP of the place", x.of(15, 0), 1);
        due.due("LOAD stays", x.of(15, 4), 8);
        x.back();
        due.due("done again unseen", x.redo(), 1);
        due.due("done again unseen", x.redo(), 0);
        due.due("HIGH", x.of(3, 8), 0);
        x.cart(3, 77);
        due.due("another comes as by cart", x.of(15, 0), 7);
        due.due("undone there", x.undo(), 1);
        due.due("LOAD of the place", x.of(15, 4), 5);
    }

    static void undoNoDeeds() {
        due.sentence(32, "deeds are none (DAMP, HEAT, GOOD, SALT, DAY by them, too)");
        HotStack x = Due.threeCells("9");
        x.mend(5, 1, 60);
        x.day();
        x.turned(1);
        x.salt(1);
        x.read(5);
        x.cart(1, 11);
        Due.bytes(x, 0, 0, 1, 1);
        x.loads(0, 0, 1);
        x.image();
        x.back();
        due.due("one change", x.count(3), 1);
        due.due("undone", x.undo(), 0);
        due.due("HEAT as it was ahead of the change", x.of(5, 1), 20);
        due.due("DAMP as by deeds", x.of(5, 0), 2);
        due.due("SALT as by deeds", x.of(5, 3), 1);
        due.due("GOOD as by deeds", x.of(5, 2), 96);
        due.due("DAY as by deeds", x.of(0, 7), 1);
        due.due("none more", x.undo(), STATE);
        due.due("CELLS as by deeds", x.count(0), 5);
        x.day();
        due.due("a deed does not part from what was undone", x.redo(), 0);
        due.due("60", x.of(5, 1), 60);
    }

    static void undoWithin() {
        due.sentence(32, "DAY (0 .. 99; 0 at first)");
        HotStack x = new HotStack();
        x.mend(0, 7, 99);
        x.day();
        due.due("99", x.of(0, 7), 99);
        x.undo();
        due.due("0", x.of(0, 7), 0);
        x.day();
        due.due("1", x.of(0, 7), 1);
        x.redo();
        due.due("99", x.of(0, 7), 99);
    }

    static void redoNone() {
        due.sentence(33, "DONE AGAIN: how many may still be. STATE: none.");
        HotStack x = Due.threeCells(null);
        due.due("none", x.redo(), STATE);
        x.mend(5, 1, 30);
        due.due("none undone", x.redo(), STATE);
        x.mend(5, 1, 40);
        x.undo();
        x.undo();
        due.due("one may still be", x.redo(), 1);
        due.due("30", x.of(5, 1), 30);
        due.due("none may", x.redo(), 0);
        due.due("40", x.of(5, 1), 40);
        due.due("none", x.redo(), STATE);
        due.due("changes nothing", x.of(5, 1), 40);
        due.due("two may be undone", x.count(3), 2);
    }

    static void redoBehindAnother() {
        due.sentence(33, "DONE AGAIN (as long as no other came behind)");
        HotStack x = Due.threeCells(null);
        x.mend(5, 1, 30);
        x.mend(5, 1, 40);
        x.mend(5, 1, 50);
        x.undo();
        x.undo();
        due.due("the same number is no other", x.mend(5, 1, 30), 30);
        due.due("a refused one is none", x.mend(5, 1, 100), BAD);
        due.due("done again", x.redo(), 1);
        x.mend(6, 1, 33);
        due.due("another came behind", x.redo(), STATE);
        due.due("three may be undone", x.count(3), 3);
        due.due("undone", x.undo(), 2);
        due.due("the other is done again", x.redo(), 0);
        due.due("33", x.of(6, 1), 33);
        due.due("50 is not", x.of(5, 1), 40);
        x.undo();
        x.undo();
        x.undo();
        x.mend(25, 2, 1);
        due.due("another at the very first", x.redo(), STATE);
        due.due("one may be undone", x.count(3), 1);
    }

    static void redoForty() {
        due.sentence(33, "DONE AGAIN: how many may still be.");
        HotStack x = Due.threeCells(null);
        for (int i = 1; i <= 45; i++) {
            x.mend(5, 1, 20 + i);
        }
        for (int i = 1; i <= 40; i++) {
            x.undo();
        }
        due.due("25", x.of(5, 1), 25);
        for (int i = 1; i <= 40; i++) {
            due.due("redo", x.redo(), 40 - i);
            due.due("HEAT", x.of(5, 1), 25 + i);
        }
        due.due("none", x.redo(), STATE);
    }

    static void redoCountsAgain() {
        due.sentence(33, "the latest first, and DONE AGAIN");
        HotStack x = Due.threeCells(null);
        for (int i = 1; i <= 3; i++) {
            x.mend(5, 1, 20 + i);
        }
        for (int round = 0; round < 3; round++) {
            due.due("undo", x.undo(), 2);
            due.due("undo", x.undo(), 1);
            due.due("may be undone", x.count(3), 1);
            due.due("redo", x.redo(), 1);
            due.due("may be undone", x.count(3), 2);
            due.due("redo", x.redo(), 0);
        }
        due.due("23", x.of(5, 1), 23);
    }

    static void redoAtTheFull() {
        due.sentence(33, "(as long as no other came behind); 40 at most are kept");
        HotStack x = Due.threeCells(null);
        for (int i = 1; i <= 40; i++) {
            x.mend(5, 1, 20 + i);
        }
        x.undo();
        x.mend(6, 1, 99);
        due.due("40 still, none is lost", x.count(3), 40);
        due.due("none to do again", x.redo(), STATE);
        for (int i = 39; i >= 0; i--) {
            due.due("undo", x.undo(), i);
        }
        due.due("the first is undone, too", x.of(5, 1), 20);
    }
}
