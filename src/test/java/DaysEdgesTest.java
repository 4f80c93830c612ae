/** The sentences of promises 9 to 16, and of what is said of them ahead, that name a boundary: a method for each. */
public final class DaysEdgesTest {
    private static final int BAD = -1, NOT = -2;
    private static final Due due = new Due();

    public static void main(String[] args) {
        due.sentencesOf(DaysEdgesTest.class, 9, 16);
        due.finish("DaysEdgesTest");
    }

    /** A lone CELL 0 of a DAMP, HEAT and GOOD. */
    private static HotStack alone(String law, int damp, int heat, int good) {
        HotStack x = Due.stack(law, 10 * damp);
        x.mend(0, 1, heat);
        x.mend(0, 2, good);
        return x;
    }

    // ---- promise 9: later

    static void laterDays() {
        due.sentence(9, "behind n (0 .. 40) days: HEAT, DAMP, GOOD of a CELL that is there");
        HotStack x = Due.threeCells("1");
        for (int n : Due.beyond(0, 40)) {
            due.due("n " + n, x.later(n, 5, 0), BAD);
        }
        due.due("behind 0", x.later(0, 5, 0), 20);
        due.due("behind 1", x.later(1, 5, 0), 21);
        due.due("behind 40", x.later(40, 5, 0), 60);
    }

    static void laterCells() {
        due.sentence(9, "Behind n days HEAT (what 0), DAMP (1), GOOD (2) of a CELL. BAD.");
        HotStack x = Due.threeCells("1");
        for (int cell : Due.noCells()) {
            for (int what = 0; what <= 2; what++) {
                due.due("cell " + cell, x.later(0, cell, what), BAD);
            }
            due.due("cell " + cell + " behind 40", x.later(40, cell, 0), BAD);
        }
        due.due("cell 25", x.later(3, 25, 0), 23);
    }

    static void laterWhat() {
        due.sentence(9, "HEAT (what 0), DAMP (1), GOOD (2)");
        HotStack x = Due.threeCells("1");
        for (int what : Due.beyond(0, 2)) {
            due.due("what " + what, x.later(1, 5, what), BAD);
        }
        due.due("HEAT", x.later(1, 5, 0), 21);
        due.due("DAMP", x.later(1, 5, 1), 4);
        due.due("GOOD", x.later(1, 5, 2), 99);
    }

    static void laterHeatWithin() {
        due.sentence(9, "HEAT of each CELL that is there is so much more (within 0 .. 99)");
        HotStack x = alone("20", 0, 78, 99);
        due.due("98", x.later(1, 0, 0), 98);
        due.due("99, not 118", x.later(2, 0, 0), 99);
        due.due("99 stays", x.later(40, 0, 0), 99);
        x.mend(0, 1, 79);
        due.due("99", x.later(1, 0, 0), 99);
        x.mend(0, 1, 80);
        due.due("99, not 100", x.later(1, 0, 0), 99);
        HotStack y = alone("-20", 0, 21, 99);
        due.due("1", y.later(1, 0, 0), 1);
        due.due("0, not -19", y.later(2, 0, 0), 0);
        due.due("0 stays", y.later(40, 0, 0), 0);
        y.mend(0, 1, 20);
        due.due("0", y.later(1, 0, 0), 0);
        y.mend(0, 1, 19);
        due.due("0, not -1", y.later(1, 0, 0), 0);
        HotStack z = alone("h=99?-20;20", 0, 85, 99);
        due.due("99, then 79", z.later(2, 0, 0), 79);
        HotStack w = alone("h=0?20;-20", 0, 5, 99);
        due.due("0, then 20", w.later(2, 0, 0), 20);
    }

    private static void goodBehind(String law, int heat, int good, int want) {
        due.due("GOOD " + good + " of HEAT " + heat + " and " + law, alone(law, 0, heat, good).later(1, 0, 2), want);
    }

    static void laterGood() {
        due.sentence(9, "GOOD of one with HEAT 40 or more then is less by HEAT by 20 (cut), 0 at least");
        goodBehind("0", 39, 99, 99);
        goodBehind("0", 40, 99, 97);
        goodBehind("0", 59, 99, 97);
        goodBehind("0", 60, 99, 96);
        goodBehind("0", 79, 99, 96);
        goodBehind("0", 80, 99, 95);
        goodBehind("0", 99, 99, 95);
        goodBehind("0", 0, 99, 99);
        goodBehind("1", 39, 99, 97);
        goodBehind("-1", 40, 99, 99);
        goodBehind("1", 59, 99, 96);
        goodBehind("-1", 60, 99, 97);
        goodBehind("0", 40, 2, 0);
        goodBehind("0", 40, 1, 0);
        goodBehind("0", 99, 5, 1);
        goodBehind("0", 99, 4, 0);
        goodBehind("0", 99, 3, 0);
        goodBehind("0", 99, 0, 0);
        due.due("99 less 40 times 2", alone("0", 0, 40, 99).later(40, 0, 2), 19);
        due.due("less 40 times 4, 0 at least", alone("0", 0, 80, 99).later(40, 0, 2), 0);
    }

    private static void dampBehind(String law, int heat, int damp, int want) {
        due.due("DAMP " + damp + " of HEAT " + heat + " and " + law, alone(law, damp, heat, 99).later(1, 0, 1), want);
    }

    static void laterDamp() {
        due.sentence(9, "DAMP of one with HEAT 50 or more then is one less (0 at least)");
        dampBehind("0", 49, 5, 5);
        dampBehind("0", 50, 5, 4);
        dampBehind("0", 99, 5, 4);
        dampBehind("0", 40, 5, 5);
        dampBehind("1", 49, 5, 4);
        dampBehind("-1", 50, 5, 5);
        dampBehind("0", 50, 1, 0);
        dampBehind("0", 50, 0, 0);
        dampBehind("0", 99, 0, 0);
        due.due("9 behind 8 days", alone("0", 9, 50, 99).later(8, 0, 1), 1);
        due.due("9 behind 9 days", alone("0", 9, 50, 99).later(9, 0, 1), 0);
        due.due("9 behind 10 days", alone("0", 9, 50, 99).later(10, 0, 1), 0);
    }

    static void laterAsItBegins() {
        due.sentence(9, "A DAY, all as they stand when it begins");
        HotStack x = Due.stack("n-h", 0, 0, 100);
        x.mend(0, 1, 30);
        x.mend(1, 1, 40);
        x.mend(5, 1, 36);
        due.due("of 0: (40 + 36) / 2", x.later(1, 0, 0), 38);
        due.due("of 1: what 0 was", x.later(1, 1, 0), 30);
        due.due("of 5: what 0 was", x.later(1, 5, 0), 30);
        HotStack y = alone("d", 5, 45, 99);
        due.due("heats by the DAMP that it had", y.later(1, 0, 0), 50);
        due.due("then by less", y.later(2, 0, 0), 54);
    }

    static void laterAltersNothing() {
        due.sentence(9, "IN THOUGHT, from now");
        HotStack x = Due.withAll();
        x.later(40, 5, 0);
        x.later(41, 5, 0);
        x.stack(40, 0);
        x.stack(40, 2);
        x.stack(41, 2);
        x.first(-1, 99);
        x.first(5, 100);
        x.rods(0);
        x.rods(100);
        x.rodsAt(20);
        x.turn(3, 20, 0);
        x.turn(4, 20, 0);
        x.chimney(20, 0);
        x.chimney(21, 0);
        x.latest();
        due.isAsWithAll(x);
    }

    static void laterByTheGround() {
        due.sentence(9, "as many as it is HIGH");
        HotStack x = Due.stack("n-20", 0);
        x.image();
        x.cart(0, 0);
        x.cart(1, 0);
        x.mend(1, 1, 99);
        x.mend(5, 1, 99);
        due.due("of 0: 99, held", x.later(1, 0, 0), 40);
        x.back();
        due.due("what lies there no more heats nothing", x.later(1, 0, 0), 20);
        Due.hide(x, 1);
        due.due("what lies there no more heats nothing", x.later(1, 0, 0), 20);
    }

    // ---- promise 10: stack

    static void stackDays() {
        due.sentence(10, "behind n (0 .. 40) days");
        HotStack x = Due.threeCells("1");
        for (int what = 0; what <= 3; what++) {
            for (int n : Due.beyond(0, 40)) {
                due.due("stack(" + n + ", " + what + ")", x.stack(n, what), BAD);
            }
        }
        due.due("behind 0", x.stack(0, 1), 20);
        due.due("behind 40", x.stack(40, 1), 60);
    }

    static void stackWhat() {
        due.sentence(10, "the hottest CELL (what 0; NOT), its HEAT (1; NOT), how many GLOW (2), GOOD of all (3)");
        HotStack x = Due.threeCells("0");
        for (int what : Due.beyond(0, 3)) {
            due.due("what " + what, x.stack(0, what), BAD);
            due.due("what " + what + " of nothing", new HotStack().stack(0, what), BAD);
        }
        x.mend(6, 1, 90);
        due.due("the hottest", x.stack(0, 0), 6);
        due.due("its HEAT", x.stack(0, 1), 90);
        due.due("one GLOWS", x.stack(0, 2), 1);
        due.due("GOOD of all", x.stack(0, 3), 297);
    }

    static void stackHottest() {
        due.sentence(10, "the hottest CELL (of like ones the least; NOT: none is there)");
        HotStack x = Due.threeCells("0");
        due.due("all like", x.stack(0, 0), 5);
        x.mend(5, 1, 19);
        due.due("6, 25 like", x.stack(0, 0), 6);
        x.mend(25, 1, 21);
        due.due("25 alone", x.stack(0, 0), 25);
        x.mend(5, 1, 0);
        x.mend(6, 1, 0);
        x.mend(25, 1, 0);
        due.due("all are 0", x.stack(0, 0), 5);
        due.due("HEAT 0", x.stack(0, 1), 0);
        HotStack y = new HotStack();
        Due.hide(y, 3);
        due.due("none is there", y.stack(0, 0), NOT);
        due.due("none is there", y.stack(40, 0), NOT);
        due.due("its HEAT", y.stack(0, 1), NOT);
        due.due("its HEAT", y.stack(40, 1), NOT);
        due.due("BAD is named first", y.stack(41, 0), BAD);
    }

    static void stackGlow() {
        due.sentence(10, "A CELL GLOWS, if its HEAT is GLOWS or more.");
        HotStack x = Due.threeCells("1");
        x.mend(5, 1, 89);
        x.mend(6, 1, 90);
        x.mend(25, 1, 99);
        due.due("90, 99", x.stack(0, 2), 2);
        due.due("behind 1 day: 89 is 90", x.stack(1, 2), 3);
        x.mend(0, 6, 99);
        due.due("99", x.stack(0, 2), 1);
        x.mend(25, 1, 98);
        due.due("98", x.stack(0, 2), 0);
        due.due("behind 1 day: 99", x.stack(1, 2), 1);
        x.mend(0, 6, 30);
        x.mend(5, 1, 29);
        due.due("29 is not 30", x.stack(0, 2), 2);
        due.due("behind 1 day", x.stack(1, 2), 3);
        due.due("nothing GLOWS where nothing is", new HotStack().stack(40, 2), 0);
        HotStack y = new HotStack();
        Due.hide(y, 0);
        due.due("what lies there no more", y.stack(0, 2), 0);
    }

    static void stackGood() {
        due.sentence(10, "GOOD of all CELLS together");
        HotStack x = Due.stack("0");
        Due.hide(x, 0);
        due.due("none", x.stack(0, 3), 0);
        due.due("none", x.stack(40, 3), 0);
        for (int i = 0; i < 30; i++) {
            x.cart(i / 5, 0);
        }
        due.due("30 of 99", x.stack(0, 3), 2970);
        due.due("30 of 99", x.stack(40, 3), 2970);
        x.mend(29, 2, 0);
        x.mend(0, 2, 1);
        due.due("28 of 99, and 1", x.stack(0, 3), 28 * 99 + 1);
    }

    // ---- promise 11: first

    static void firstDays() {
        due.sentence(11, "FIRST: behind how many days (0 .. 40) a CELL is first so hot");
        HotStack x = alone("1", 0, 20, 99);
        due.due("now", x.first(0, 20), 0);
        due.due("behind 1", x.first(0, 21), 1);
        due.due("behind 39", x.first(0, 59), 39);
        due.due("behind 40", x.first(0, 60), 40);
        due.due("not behind 41", x.first(0, 61), NOT);
        due.due("any behind 40", x.first(-1, 60), 40);
        due.due("none behind 41", x.first(-1, 61), NOT);
        HotStack y = alone("h<30?5;-20", 0, 20, 99);
        due.due("30 behind 2, 5, 8 ..: first", y.first(0, 30), 2);
        due.due("25 behind 1", y.first(0, 25), 1);
        due.due("never 31", y.first(0, 31), NOT);
    }

    static void firstHeat() {
        due.sentence(11, "so hot (0 .. 99, told) or more; of all; NOT.");
        HotStack x = Due.threeCells("20");
        for (int heat : Due.beyond(0, 99)) {
            due.due("heat " + heat, x.first(5, heat), BAD);
            due.due("heat " + heat + " of any", x.first(-1, heat), BAD);
            due.due("heat " + heat + " of none", new HotStack().first(-1, heat), BAD);
        }
        x.mend(5, 1, 0);
        due.due("0 now", x.first(5, 0), 0);
        due.due("99 behind 5", x.first(5, 99), 5);
        due.due("80 behind 4", x.first(5, 80), 4);
        due.due("81 or more behind 5", x.first(5, 81), 5);
        due.due("99 of any, of 6", x.first(-1, 99), 4);
    }

    static void firstCells() {
        due.sentence(11, "FIRST, of a CELL (cell -1: of any). BAD; NOT.");
        HotStack x = Due.threeCells("0");
        for (int cell : Due.noCells()) {
            if (cell != -1) {
                due.due("cell " + cell, x.first(cell, 20), BAD);
            }
        }
        due.due("cell -2", x.first(-2, 20), BAD);
        x.mend(25, 1, 30);
        due.due("any: 25", x.first(-1, 30), 0);
        due.due("5 never", x.first(5, 30), NOT);
        due.due("25 now", x.first(25, 30), 0);
        due.due("none never", x.first(-1, 31), NOT);
    }

    static void firstOfNone() {
        due.sentence(11, "int first(int cell, int heat)`: FIRST, of a CELL (cell -1: of any). BAD; NOT.");
        due.due("no cells, heat 0", new HotStack().first(-1, 0), NOT);
        due.due("no cells, heat 99", new HotStack().first(-1, 99), NOT);
        due.due("no cell 0", new HotStack().first(0, 0), BAD);
    }

    static void firstOfACell() {
        due.sentence(11, "a CELL is first so hot (0 .. 99, told) or more; of all");
        HotStack x = Due.stack("d", 10, 20, 130);
        due.due("0, by 1 a day", x.first(0, 23), 3);
        due.due("1, by 2 a day", x.first(1, 23), 2);
        due.due("5, by 3 a day", x.first(5, 23), 1);
        due.due("any", x.first(-1, 23), 1);
        x.mend(5, 1, 99);
        due.due("0", x.first(0, 23), 3);
        due.due("any", x.first(-1, 23), 0);
    }

    // ---- promise 12: rods

    private static HotStack square() {
        HotStack x = new HotStack();
        for (int i = 0; i < 30; i++) {
            x.cart(i / 5, 0);
        }
        return x;
    }

    private static void hot(HotStack x, int... cells) {
        for (int cell : cells) {
            x.mend(cell, 1, 80);
        }
    }

    static void rodsHeat() {
        due.sentence(12, "RODS for a HEAT: how many. BAD; NOT.");
        HotStack x = Due.threeCells(null);
        for (int heat : Due.beyond(0, 99)) {
            due.due("heat " + heat, x.rods(heat), BAD);
            due.due("heat " + heat + " of nothing", new HotStack().rods(heat), BAD);
        }
        x.mend(5, 1, 0);
        x.mend(6, 1, 0);
        x.mend(25, 1, 99);
        due.due("heat 0", x.rods(0), 2);
        due.due("heat 1", x.rods(1), 1);
        due.due("heat 99", x.rods(99), 1);
    }

    static void rodsHotNow() {
        due.sentence(12, "each CELL that is there with told HEAT or more now has a rod in it or BESIDE it");
        HotStack x = Due.stack("20", 0, 200, 400);
        x.mend(0, 1, 49);
        x.mend(10, 1, 50);
        x.mend(20, 1, 51);
        due.due("49: three", x.rods(49), 3);
        due.due("50: two", x.rods(50), 2);
        due.due("51: one", x.rods(51), 1);
        due.due("52: none now", x.rods(52), 0);
        HotStack y = square();
        hot(y, 4, 5);
        due.due("4 and 5 are not beside each other", y.rods(80), 2);
        hot(y, 9);
        due.due("4 and 9 are, 5 is not", y.rods(80), 2);
        for (int[] pair : new int[][] {{0, 2}, {2, 4}, {25, 27}, {27, 29}, {0, 10}, {15, 25}, {1, 5}, {0, 6}, {24, 28}}) {
            HotStack w = square();
            hot(w, pair);
            due.due("one rod beside " + pair[0] + " and " + pair[1], w.rods(80), 1);
        }
        for (int[] pair : new int[][] {{0, 3}, {0, 15}, {4, 5}, {24, 25}, {0, 11}, {0, 7}}) {
            HotStack w = square();
            hot(w, pair);
            due.due("none beside " + pair[0] + " and " + pair[1], w.rods(80), 2);
        }
        HotStack z = square();
        hot(z, 7, 11, 12, 13, 17);
        due.due("12 sees all five", z.rods(80), 1);
        hot(z, 6);
        due.due("but not 6", z.rods(80), 2);
    }

    static void rodsAtMostFour() {
        due.sentence(12, "how many (4 at most count: NOT beyond)");
        HotStack x = square();
        hot(x, 0, 4, 25);
        due.due("three corners", x.rods(80), 3);
        hot(x, 29);
        due.due("four corners", x.rods(80), 4);
        hot(x, 12);
        due.due("five", x.rods(80), NOT);
        due.due("all 30", x.rods(20), NOT);
        due.due("all 30", x.rods(0), NOT);
    }

    static void rodsNoneSoHot() {
        due.sentence(12, "RODS: none so hot: 0, bits 0.");
        HotStack x = Due.threeCells(null);
        due.due("21", x.rods(21), 0);
        due.due("bits", x.rodsAt(21), 0);
        due.due("no cells", new HotStack().rods(0), 0);
        due.due("no cells, bits", new HotStack().rodsAt(0), 0);
    }

    static void rodsInCellsThatAreThere() {
        due.sentence(12, "(rods in CELLS that are there)");
        // A rod in CELL 5 or 6 would see both 0 or 1 and 10 or 11: nothing is there.
        HotStack x = Due.stack(null, 0, 200);
        due.due("two", x.rods(20), 2);
        due.due("in 0, 10", x.rodsAt(20), 1L | 1L << 10);
        x.cart(1, 0);
        x.mend(5, 1, 0);
        due.due("it is there, however cool", x.rods(20), 1);
        due.due("in 5", x.rodsAt(20), 1L << 5);
        HotStack y = Due.stack(null, 0, 200);
        Due.hide(y, 1);
        due.due("what lies there no more is not hot", y.rods(21), 0);
        due.due("nor does a rod lie there", y.rods(20), 2);
    }

    // ---- promise 13: rodsAt

    static void rodsAtHeat() {
        due.sentence(13, "Long.MIN_VALUE: BAD; -2: NOT.");
        HotStack x = square();
        for (int heat : Due.beyond(0, 99)) {
            due.due("heat " + heat, x.rodsAt(heat), Long.MIN_VALUE);
            due.due("heat " + heat + " of nothing", new HotStack().rodsAt(heat), Long.MIN_VALUE);
        }
        due.due("30 by four", x.rodsAt(20), -2);
        due.due("30 by four", x.rodsAt(0), -2);
        due.due("none", x.rodsAt(99), 0);
    }

    static void rodsAtBits() {
        due.sentence(13, "which (bits of a long; of like ones the least, as bits)");
        HotStack x = Due.stack(null, 500, 500, 500, 500, 500);
        hot(x, 29);
        due.due("28, beside 29", x.rodsAt(80), 1L << 28);
        hot(x, 27);
        due.due("28 sees both", x.rodsAt(80), 1L << 28);
        hot(x, 25);
        due.due("25 sees itself, 28 sees 27 and 29", x.rodsAt(80), 1L << 25 | 1L << 28);
        HotStack y = Due.stack(null, 0, 0, 0, 0, 0, 500);
        hot(y, 25);
        due.due("a lone 25", y.rodsAt(80), 1L << 25);
        hot(y, 4);
        due.due("and 3, beside 4", y.rodsAt(80), 1L << 25 | 1L << 3);
        int[][] least = {{0, 0}, {1, 0}, {5, 0}, {6, 1}, {4, 3}, {9, 4}, {25, 20}, {29, 24}, {12, 7}};
        for (int[] l : least) {
            HotStack v = square();
            hot(v, l[0]);
            due.due("the least that sees " + l[0], v.rodsAt(80), 1L << l[1]);
        }
        HotStack z = Due.stack(null, 0, 0, 100, 100, 200, 200);
        hot(z, 0, 10, 11);
        due.due("5, 6 are 96, less than 0, 10: 1025", z.rodsAt(80), 96);
        HotStack w = square();
        hot(w, 0, 4, 25, 29);
        due.due("3 for 4, 0 for 0, 20 for 25, 24 for 29", w.rodsAt(80), 1L | 1L << 3 | 1L << 20 | 1L << 24);
        hot(w, 12);
        due.due("five", w.rodsAt(80), -2);
    }

    // ---- promise 14: turn

    static void turnColumns() {
        due.sentence(14, "TURN: k (0 .. 3) unlike COLUMNS turned now");
        HotStack x = Due.threeCells("0");
        for (int k : Due.beyond(0, 3)) {
            due.due("k " + k, x.turn(k, 0, 0), BAD);
            due.due("k " + k, x.turn(k, 0, 1), BAD);
        }
        int[] want = {0, 1, 3, 7};
        for (int k = 0; k <= 3; k++) {
            due.due("that", x.turn(k, 0, 0), 20);
            due.due("which: of like ones the least", x.turn(k, 0, 1), want[k]);
        }
        x.mend(25, 1, 50);
        int[] with5 = {0, 32, 33, 35};
        for (int k = 0; k <= 3; k++) {
            due.due("that", x.turn(k, 0, 0), k == 0 ? 50 : 20);
            due.due("unlike ones, 5 among them", x.turn(k, 0, 1), with5[k]);
        }
    }

    static void turnMust() {
        due.sentence(14, "TURN: k (0 .. 3) unlike COLUMNS turned now (HEAT of their CELLS 20");
        HotStack x = Due.stack("0", 0, 100, 200, 300, 400, 500);
        for (int column = 0; column <= 5; column++) {
            x.mend(5 * column, 1, 10);
        }
        int[] which = {0, 1, 3, 7};
        for (int k = 0; k <= 3; k++) {
            due.due("turned, it is warmer", x.turn(k, 0, 0), k == 0 ? 10 : 20);
            due.due("which", x.turn(k, 0, 1), which[k]);
        }
    }

    static void turnDays() {
        due.sentence(14, "the hottest is least hot behind n (0 .. 20) days");
        HotStack x = alone("1", 0, 30, 99);
        for (int n : Due.beyond(0, 20)) {
            due.due("n " + n, x.turn(1, n, 0), BAD);
        }
        due.due("behind 0", x.turn(1, 0, 0), 20);
        due.due("behind 20", x.turn(1, 20, 0), 40);
        due.due("none turned, behind 20", x.turn(0, 20, 0), 50);
    }

    static void turnWhat() {
        due.sentence(14, "TURN: that HEAT (what 0), which (1). BAD; NOT.");
        HotStack x = Due.threeCells("0");
        for (int what : Due.beyond(0, 1)) {
            due.due("what " + what, x.turn(1, 0, what), BAD);
            due.due("what " + what + " of nothing", new HotStack().turn(1, 0, what), BAD);
        }
    }

    static void turnedInThought() {
        due.sentence(14, "(HEAT of their CELLS 20, DAMP one less, 0 at least)");
        due.due("HEAT 0 is 20 then: 19 is cooler, not turned", alone("0", 0, 19, 99).turn(1, 0, 0), 19);
        due.due("an empty COLUMN is turned", alone("0", 0, 19, 99).turn(1, 0, 1), 2);
        due.due("DAMP 5 is 4: 24", alone("d", 5, 60, 99).turn(1, 1, 0), 24);
        due.due("DAMP 1 is 0: 20", alone("d", 1, 60, 99).turn(1, 1, 0), 20);
        due.due("DAMP 0 is 0: 20", alone("d", 0, 60, 99).turn(1, 1, 0), 20);
        due.due("DAMP 0 is 0: 20", alone("d", 0, 60, 99).turn(1, 20, 0), 20);
        HotStack x = Due.stack("d", 150, 140, 130, 120, 110);
        x.mend(9, 1, 99);
        due.due("all five of a COLUMN", x.turn(1, 1, 0), 24);
        due.due("COLUMN 1", x.turn(1, 1, 1), 2);
    }

    static void turnOfNothing() {
        due.sentence(14, "which (bits; of like ones the least); NOT: no CELLS are there.");
        HotStack x = new HotStack();
        for (int k = 0; k <= 3; k++) {
            due.due("that", x.turn(k, 0, 0), NOT);
            due.due("which", x.turn(k, 20, 1), NOT);
        }
        due.due("BAD is named first", x.turn(4, 0, 0), BAD);
        due.due("HEAT 0 is no NOT", alone("-20", 0, 20, 99).turn(0, 1, 0), 0);
        due.due("bits 0 are no NOT", alone("-20", 0, 20, 99).turn(0, 1, 1), 0);
    }

    static void turnEmptyColumns() {
        due.sentence(14, "TURN, WHERE: empty COLUMNS, too.");
        HotStack x = Due.stack("0", 500);
        x.mend(25, 1, 10);
        due.due("turned it would be 20", x.turn(3, 0, 0), 10);
        due.due("0 to 2 are empty", x.turn(3, 0, 1), 7);
        x.mend(25, 1, 30);
        due.due("5, and 0, 1", x.turn(3, 0, 1), 35);
    }

    // ---- promise 15: chimney

    static void chimneyDays() {
        due.sentence(15, "WHERE: the COLUMN in which a CHIMNEY more (one that has none) leaves the hottest least hot behind n "
            + "days");
        HotStack x = Due.stack("5-a", 0);
        for (int n : Due.beyond(0, 20)) {
            due.due("n " + n, x.chimney(n, 0), BAD);
            due.due("n " + n, x.chimney(n, 1), BAD);
            due.due("n " + n + " of nothing", new HotStack().chimney(n, 1), BAD);
        }
        due.due("behind 0", x.chimney(0, 1), 20);
        due.due("behind 20: 5 less 5", x.chimney(20, 1), 20);
        due.due("COLUMN 0", x.chimney(20, 0), 0);
        x.mend(0, 5, 1);
        due.due("it has one", x.chimney(20, 0), 1);
        due.due("of no use", x.chimney(20, 1), 20);
        x.mend(0, 5, 0);
        x.mend(1, 5, 1);
        due.due("another has one", x.chimney(20, 0), 0);
    }

    static void chimneyWhat() {
        due.sentence(15, "WHERE a CHIMNEY: which (what 0), that (1). BAD; NOT.");
        HotStack x = Due.stack("5-a", 0);
        for (int what : Due.beyond(0, 1)) {
            due.due("what " + what, x.chimney(0, what), BAD);
            due.due("what " + what + " of nothing", new HotStack().chimney(0, what), BAD);
        }
    }

    static void chimneyOfLikeOnes() {
        due.sentence(15, "(of like ones the least): which; that");
        HotStack x = Due.stack("5-a", 200, 400);
        due.due("one heats by 2 in any case: 0", x.chimney(1, 0), 0);
        due.due("that", x.chimney(1, 1), 22);
        x.mend(2, 5, 1);
        due.due("4 is the hottest", x.chimney(1, 0), 4);
        due.due("that", x.chimney(1, 1), 20);
        HotStack y = Due.stack("-20", 0);
        due.due("HEAT 0 is no NOT", y.chimney(1, 1), 0);
        due.due("COLUMN 0 is no NOT", y.chimney(1, 0), 0);
    }

    static void chimneyNot() {
        due.sentence(15, "NOT: all have one, or no CELLS are there.");
        HotStack x = Due.stack("5-a", 0);
        for (int column = 0; column <= 4; column++) {
            x.mend(column, 5, 1);
        }
        due.due("5 has none", x.chimney(1, 0), 5);
        x.mend(5, 5, 1);
        due.due("all have one", x.chimney(1, 0), NOT);
        due.due("all have one", x.chimney(1, 1), NOT);
        due.due("BAD is named first", x.chimney(21, 0), BAD);
        due.due("no cells", new HotStack().chimney(0, 0), NOT);
        due.due("no cells", new HotStack().chimney(20, 1), NOT);
    }

    static void chimneyEmptyColumns() {
        due.sentence(15, "WHERE: empty COLUMNS, too.");
        HotStack x = Due.stack("5-a", 0);
        x.mend(0, 5, 1);
        due.due("1 is empty", x.chimney(3, 0), 1);
        for (int column = 1; column <= 4; column++) {
            x.mend(column, 5, 1);
        }
        due.due("5 is empty", x.chimney(3, 0), 5);
    }

    // ---- promise 16: latest

    /** DAMP 5 heats by 5 a day; turned, and behind 50, it has less, and cools. */
    private static HotStack turnedItCools(int glows) {
        HotStack x = Due.stack("d=5?5;-1", 50);
        x.mend(0, 6, glows);
        return x;
    }

    static void latestOnThatDay() {
        due.sentence(16, "LATEST: none GLOWS as it stands behind each day up to that one");
        due.due("45 behind 5 days", turnedItCools(45).latest(), 4);
        due.due("46 is reached behind 6", turnedItCools(46).latest(), 5);
        due.due("30 behind 2", turnedItCools(30).latest(), 1);
        HotStack x = turnedItCools(30);
        x.mend(0, 1, 25);
        due.due("30 behind 1", x.latest(), 0);
    }

    static void latestGlowsNow() {
        due.sentence(16, "so that none GLOWS behind any of 0 to 40 days, on the day before it is turned, too");
        HotStack x = turnedItCools(30);
        x.mend(0, 1, 29);
        due.due("29 now", x.latest(), 0);
        x.mend(0, 1, 30);
        due.due("30 now", x.latest(), NOT);
        HotStack y = Due.stack("-1", 0);
        y.mend(0, 1, 90);
        due.due("90 now, but never again", y.latest(), NOT);
    }

    static void latestToTheFortieth() {
        due.sentence(16, "and, all turned then, behind each from it to the 40th");
        HotStack x = Due.stack("1", 0);
        x.mend(0, 1, 19);
        x.mend(0, 6, 41);
        due.due("turned behind 20 it is 40 behind 40", x.latest(), 20);
        x.mend(0, 6, 40);
        due.due("turned behind 20 it is 40 behind 40", x.latest(), NOT);
        // Turned it is 30, then 40, and cools then; unturned it is 50 behind 15 days.
        HotStack y = Due.stack("h=20&d=1?10;h=30&d=1?10;d=2?2;-1", 20);
        y.mend(0, 6, 50);
        due.due("30, 40 behind it", y.latest(), 14);
        y.mend(0, 6, 40);
        due.due("30, 40 behind it: 40 GLOWS", y.latest(), NOT);
    }

    static void latestOfAll() {
        due.sentence(16, "all COLUMNS must be turned at the latest, so that none GLOWS");
        HotStack x = Due.stack("d=5?5;-1", 0, 550);
        x.mend(0, 6, 45);
        due.due("0 is cool, 25 is 45 behind 5 days", x.latest(), 4);
        x.cart(2, 50);
        x.mend(10, 1, 25);
        due.due("10 is 45 behind 4", x.latest(), 3);
        x.mend(0, 1, 45);
        due.due("0 GLOWS now", x.latest(), NOT);
    }

    static void latestAtMostTwenty() {
        due.sentence(16, "LATEST: behind how many days (0 .. 20) all COLUMNS must be turned at the latest");
        HotStack x = Due.stack("2", 0);
        due.due("90 behind 35 days", x.latest(), 20);
        HotStack y = Due.stack("d=9?2;-1", 90);
        y.mend(0, 6, 62);
        due.due("62 behind 21 days, but at 50 it has less DAMP", y.latest(), NOT);
        y.mend(0, 6, 49);
        due.due("50 behind 15 days", y.latest(), 14);
        HotStack z = Due.stack("d=9?1;-1", 90);
        z.mend(0, 6, 41);
        due.due("41 behind 21 days", z.latest(), 20);
        z.mend(0, 6, 42);
        due.due("42 behind 22 days", z.latest(), 20);
        z.mend(0, 6, 40);
        due.due("40 behind 20 days", z.latest(), 19);
    }

    static void latestNotEvenNow() {
        due.sentence(16, "NOT: not even now");
        HotStack x = Due.stack("5", 0);
        due.due("turned now it is 90 behind 14", x.latest(), NOT);
        HotStack y = Due.stack("2", 0);
        y.mend(0, 1, 78);
        due.due("90 behind 6; turned behind 5 it is 90 behind 40", y.latest(), NOT);
        y.mend(0, 1, 76);
        due.due("90 behind 7; turned behind 6 it is 88 behind 40", y.latest(), 6);
    }

    static void latestNeverGlows() {
        due.sentence(16, "or none GLOWS ever");
        HotStack x = Due.stack("1", 0);
        x.mend(0, 1, 49);
        due.due("89 behind 40", x.latest(), NOT);
        x.mend(0, 1, 50);
        due.due("90 behind 40", x.latest(), 20);
        due.due("cool hay", Due.stack("0", 0).latest(), NOT);
        due.due("no cells", new HotStack().latest(), NOT);
    }
}
