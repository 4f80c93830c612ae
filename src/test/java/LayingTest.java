/** Promises 17 to 24: laying, worth, books, by turns, draws. */
public final class LayingTest {
    private static final int BAD = -1, NOT = -2, VOID = -2000000000;
    private static final Due due = new Due();

    public static void main(String[] args) {
        lay();
        layRefusals();
        worth();
        sell();
        whose();
        judge();
        book();
        byTurns();
        drawn();
        due.finish("LayingTest");
    }

    private static void lays(HotStack x, int n, int that, int... places) {
        due.due("lay -1", x.lay(0, n, -1), that);
        for (int k = 0; k < places.length; k++) {
            due.due("lay " + k, x.lay(0, n, k), places[k]);
        }
        for (int k = places.length; k <= 8; k++) {
            due.due("not as many: " + k, x.lay(0, n, k), NOT);
        }
    }

    private static void lay() {
        due.promise(17);
        // In COLUMN 0 above DAMP 0 a load heats by twice its DAMP, elsewhere by its DAMP.
        HotStack x = Due.stack("l?d*2;d", 0);
        Due.bytes(x, 0, 5, 3, 4);
        lays(x, 0, 20, 0, 1, 2);
        lays(x, 1, 26, 1, 0, 2);
        due.due("all as it was", x.count(0), 1);
        due.due("carted", x.led(0), 1);
        Due.bytes(x, 0, 3, 3, 4);
        lays(x, 1, 26, 0, 1, 2);
        Due.bytes(x, 0, 4, 3, 3);
        lays(x, 1, 26, 1, 0, 2);
        Due.bytes(x, 0, 9, 8, 7, 6, 5, 4, 0, 0);
        lays(x, 1, 29, 5, 0, 1, 2, 3, 4);
        Due.bytes(x, 0, 1, 2, 10, 0);
        lays(x, 1, 22, 0, 1);
        Due.bytes(x, 0, 1, 2, -1, 0);
        lays(x, 1, 22, 0, 1);
        Due.bytes(x, 0, 10);
        lays(x, 3, 20);
        Due.bytes(x, 0);
        lays(x, 3, 20);
        HotStack empty = new HotStack();
        Due.bytes(empty, 0);
        lays(empty, 3, NOT);
        Due.bytes(empty, 0, 10, 1, 2);
        lays(empty, 3, NOT);
        HotStack full = Due.stack("d", 100, 100, 100, 100, 100);
        Due.bytes(full, 0, 1);
        lays(full, 8, 28, 0);
        Due.bytes(full, 0, 1, 1);
        due.due("column 1 is full", full.lay(0, 8, -1), NOT);
        due.due("column 1 is full", full.lay(0, 8, 0), NOT);
        HotStack dry = Due.stack("d-9", 0, 100);
        Due.bytes(dry, 0, 0, 9, 0);
        lays(dry, 8, 20, 0, 1, 2);
        HotStack cold = new HotStack();
        Due.tell(cold, "-20");
        Due.bytes(cold, 0, 3, 3);
        lays(cold, 1, 0, 0, 1);
        HotStack salty = Due.stack("s*9+d", 0);
        salty.mend(0, 3, 1);
        Due.bytes(salty, 0, 3);
        lays(salty, 1, 29, 0);
        due.due("loads come as by cart", Due.stack("d", 0).of(0, 2), 99);
    }

    private static void layRefusals() {
        due.promise(17);
        HotStack x = Due.stack("d", 0);
        x.body(0);
        due.due("nothing", x.lay(0, 0, -1), -11);
        due.due("nothing, k 6", x.lay(0, 0, 6), -11);
        due.due("nothing, k -2", x.lay(0, 0, -2), BAD);
        due.due("nothing, n 9, k 6", x.lay(0, 9, 6), BAD);
        x.keep(0, 0);
        due.due("a body", x.lay(0, 0, -1), -12);
        for (int sort = 1; sort <= 4; sort++) {
            x.row(0, sort, 3);
            due.due("sort " + sort, x.lay(0, 0, -1), -12);
            due.due("sort " + sort + ", k 5", x.lay(0, 0, 5), -12);
            due.due("sort " + sort + ", k 6", x.lay(0, 0, 6), -12);
            due.due("sort " + sort + ", n 9", x.lay(0, 9, 0), BAD);
        }
        Due.bytes(x, 0, 1, 2, 3);
        due.due("shelf -1", x.lay(-1, 0, 0), BAD);
        due.due("shelf 6", x.lay(6, 0, 0), BAD);
        due.due("n -1", x.lay(0, -1, 0), BAD);
        due.due("n 9", x.lay(0, 9, 0), BAD);
        due.due("n 8", x.lay(0, 8, 2), 2);
        due.due("k -2", x.lay(0, 0, -2), BAD);
        due.due("k 6: not as many", x.lay(0, 0, 6), NOT);
        due.due("k most: not as many", x.lay(0, 0, Integer.MAX_VALUE), NOT);
        due.due("k least", x.lay(0, 0, Integer.MIN_VALUE), BAD);
        due.due("k 3: not as many", x.lay(0, 0, 3), NOT);
    }

    private static void worth() {
        due.promise(18);
        HotStack x = Due.stack(null, 0, 0, 100);
        due.due("three of 99 by 9", x.worth(), 33);
        x.mend(0, 2, 98);
        due.due("98 by 9, cut", x.worth(), 32);
        x.mend(5, 2, 8);
        due.due("8 by 9", x.worth(), 21);
        x.mend(1, 1, 89);
        due.due("89 does not GLOW", x.worth(), 21);
        x.mend(1, 1, 90);
        due.due("90 does", x.worth(), 10);
        x.mend(0, 6, 91);
        due.due("GLOWS at 91", x.worth(), 21);
        due.due("no cells", new HotStack().worth(), 0);
    }

    private static void sell() {
        due.promise(19);
        HotStack x = Due.stack("-10", 0, 100);
        x.mend(0, 1, 99);
        due.due("now, the 0th", x.sell(0, 0, 0), 0);
        due.due("now, that", x.sell(0, 0, 1), 11);
        due.due("behind 1: 99 - 4 = 95", x.sell(5, 0, 0), 1);
        due.due("10 and 11", x.sell(5, 0, 1), 21);
        due.due("less 9 for a day", x.sell(5, 9, 1), 12);
        due.due("less 10: like, the least", x.sell(5, 10, 0), 0);
        due.due("that", x.sell(5, 10, 1), 11);
        due.due("n 40", x.sell(40, 99, 1), 11);
        HotStack y = Due.stack("-3", 0);
        y.mend(0, 1, 99);
        due.due("behind 4: 87", y.sell(40, 0, 0), 4);
        due.due("99 less 4, 4, 4, 4 by 9", y.sell(40, 0, 1), 9);
        due.due("2 for each", y.sell(40, 2, 1), 1);
        due.due("the 4th day of 4", y.sell(4, 0, 0), 4);
        due.due("3 for each: none is worth it", y.sell(40, 3, 1), 0);
        due.due("the 3rd day is too early", y.sell(3, 0, 1), 0);
        due.due("n -1", x.sell(-1, 0, 0), VOID);
        due.due("n 41", x.sell(41, 0, 0), VOID);
        due.due("c -1", x.sell(0, -1, 0), VOID);
        due.due("c 100", x.sell(0, 100, 0), VOID);
        due.due("what -1", x.sell(0, 0, -1), VOID);
        due.due("what 2", x.sell(0, 0, 2), VOID);
        due.due("no cells", new HotStack().sell(40, 0, 1), 0);
    }

    private static void whose() {
        due.promise(20);
        HotStack x = Due.stack(null, 3, 5, 103, 209);
        due.due("nothing is gone", x.whose(), NOT);
        x.mend(10, 2, 98);
        due.due("1 of LOAD 9", x.whose(), 9);
        x.mend(1, 2, 98);
        due.due("of like ones the least", x.whose(), 5);
        x.mend(1, 2, 90);
        due.due("9 of LOAD 5", x.whose(), 5);
        x.mend(0, 2, 94);
        x.mend(5, 2, 94);
        due.due("5 and 5 of LOAD 3", x.whose(), 3);
        x.mend(0, 2, 95);
        due.due("9 and 9", x.whose(), 3);
        x.mend(0, 2, 96);
        due.due("8 and 9", x.whose(), 5);
        x.mend(1, 4, 0);
        due.due("of LOAD 0 now", x.whose(), 0);
        due.due("no cells", new HotStack().whose(), NOT);
    }

    private static void judge() {
        due.promise(21);
        HotStack x = Due.stack("d", 30, 110);
        Due.bytes(x, 0, 20, 23, 26, 29);
        due.due("all is so", x.judge(0, 0), NOT);
        due.due("of cell 5 it is not", x.judge(0, 5), 1);
        Due.bytes(x, 0, 20, 23, 27, 29);
        due.due("the first that is not", x.judge(0, 0), 2);
        Due.bytes(x, 0, 20, 100, 100, 29);
        due.due("not read", x.judge(0, 0), NOT);
        Due.bytes(x, 0, 21);
        due.due("wrong now", x.judge(0, 0), 0);
        Due.bytes(x, 0, 100, -1);
        due.due("a byte below 0", x.judge(0, 0), 1);
        Due.bytes(x, 0, 100, 100, 101);
        due.due("a byte above 100", x.judge(0, 0), 2);
        x.row(0, 0, 0);
        due.due("an empty book", x.judge(0, 0), NOT);
        long[] book = new long[60];
        for (int i = 0; i < 60; i++) {
            book[i] = 20 + i;
        }
        Due.bytes(x, 0, book);
        due.due("of DAMP 1, 50 then 51, and no DAMP", x.judge(0, 5), 31);
        HotStack y = Due.stack("1", 0);
        book[40] = 61;
        Due.bytes(y, 0, book);
        due.due("the 40th day counts", y.judge(0, 0), 40);
        book[40] = 60;
        book[41] = 0;
        Due.bytes(y, 0, book);
        due.due("the 41st does not", y.judge(0, 0), NOT);
        due.due("shelf -1", x.judge(-1, 0), BAD);
        due.due("shelf 6", x.judge(6, 0), BAD);
        due.due("cell 1", x.judge(0, 1), BAD);
        due.due("cell -1", x.judge(0, -1), BAD);
        due.due("cell 30", x.judge(1, 30), BAD);
        due.due("nothing", x.judge(1, 0), -11);
        x.row(1, 4, 3);
        due.due("booleans", x.judge(1, 0), -12);
        x.body(0);
        x.keep(1, 0);
        due.due("a body", x.judge(1, 0), -12);
        due.due("as it was", x.of(0, 1), 20);
    }

    private static void book() {
        due.promise(22);
        // A cell heats by the DAMP of none but itself, and by half of what lies beside it.
        HotStack x = Due.stack("d/2+s*3", 70, 110);
        Due.bytes(x, 0, 20, 23);
        due.due("DAMPS 6, 7", x.book(0, 0, 0), 2);
        due.due("the least", x.book(0, 0, 1), 6);
        due.due("SALT 0 heats by 3", x.book(0, 0, 2), 1);
        Due.bytes(x, 0, 20, 26, 32);
        due.due("DAMPS", x.book(0, 0, 0), 0);
        due.due("none", x.book(0, 0, 1), NOT);
        due.due("SALT 1", x.book(0, 0, 2), 2);
        due.due("of a cell beside no DAMP fits", x.book(0, 5, 0), 0);
        Due.bytes(x, 0, 20, 100);
        due.due("all fit", x.book(0, 0, 0), 10);
        due.due("the least", x.book(0, 0, 1), 0);
        due.due("both", x.book(0, 0, 2), 3);
        Due.bytes(x, 0, 21);
        due.due("neither", x.book(0, 0, 2), 0);
        HotStack y = Due.stack("n-20+d", 10, 150);
        Due.bytes(y, 0, 20, 21, 27);
        due.due("a rod in cell 0 tells of cell 5: 20, 21 + 5 of 25, 5 of it", y.book(0, 5, 0), 1);
        due.due("which", y.book(0, 5, 1), 5);
        due.due("of cell 0 itself", y.book(0, 0, 1), 1);
        due.due("a rod in cell 5 does not", y.book(0, 500, 0), 0);
        due.due("shelf -1", x.book(-1, 0, 0), BAD);
        due.due("shelf 6", x.book(6, 0, 0), BAD);
        due.due("cc -1", x.book(0, -1, 0), BAD);
        due.due("cc 1", x.book(0, 1, 0), BAD);
        due.due("cc 30", x.book(0, 30, 0), BAD);
        due.due("cc 99", x.book(0, 99, 0), BAD);
        due.due("cc 100", x.book(0, 100, 0), BAD);
        due.due("cc 3000", x.book(0, 3000, 0), BAD);
        due.due("cc least", x.book(0, Integer.MIN_VALUE, 0), BAD);
        due.due("what -1", x.book(0, 0, -1), BAD);
        due.due("what 3", x.book(0, 0, 3), BAD);
        due.due("nothing", x.book(1, 0, 0), -11);
        due.due("nothing and BAD", x.book(1, 1, 0), BAD);
        x.row(1, 2, 3);
        due.due("ints", x.book(1, 0, 2), -12);
        x.body(0);
        x.keep(1, 0);
        due.due("a body", x.book(1, 0, 1), -12);
        due.due("DAMP as it was", x.of(0, 0), 7);
        due.due("SALT as it was", x.of(0, 3), 0);
    }

    private static void byTurns() {
        due.promise(23);
        HotStack x = Due.stack("d", 50, 140);
        x.mend(0, 1, 40);
        due.due("one deed: turned, 20 + 4 + 4; the other 20 + 4 + 4", x.byTurns(12, 0), 28);
        due.due("the farmer turns column 0", x.byTurns(12, 1), 0);
        due.due("two deeds: the weather wets column 0 or 1", x.byTurns(22, 0), 32);
        due.due("three deeds: what was wetted is turned, 20 + 5 + 5", x.byTurns(32, 0), 30);
        due.due("no days", x.byTurns(10, 0), 20);
        HotStack y = Due.stack("d", 0, 100);
        due.due("of like ones nothing first", y.byTurns(15, 1), 6);
        due.due("it is 20", y.byTurns(15, 0), 20);
        due.due("DAMP 2 by the weather", y.byTurns(21, 0), 22);
        y.mend(0, 1, 30);
        y.mend(5, 1, 30);
        due.due("both are 30: nothing", y.byTurns(10, 1), 6);
        due.due("both are 30, two turned: the least first", y.byTurns(30, 1), 0);
        due.due("both are 30, two turned", y.byTurns(30, 0), 20);
        // Wherever it wets, the hottest gets 75, not 76.
        HotStack z = Due.stack("n-h+9-d", 0, 130, 230, 310, 400, 520);
        due.due("the weather may do nothing, too", z.byTurns(27, 0), 76);
        due.due("top cells only", Due.stack("l?0;d", 20, 10).byTurns(22, 0), 22);
        due.due("a lone cell is the top", Due.stack("l?0;d", 20).byTurns(22, 0), 26);
        HotStack w = Due.stack("d", 90);
        due.due("DAMP is 9 at most", w.byTurns(21, 0), 29);
        HotStack v = Due.stack("l?0;d", 0, 100, 200, 300, 400, 500);
        v.mend(25, 1, 60);
        due.due("column 5 is turned", v.byTurns(10, 1), 5);
        due.due("column 5 is wetted", Due.stack("l?0;d", 0, 100, 200, 300, 400, 550).byTurns(21, 0), 26);
        v.mend(20, 1, 99);
        v.mend(0, 1, 99);
        due.due("99 stays", v.byTurns(10, 0), 99);
        due.due("nothing does it", v.byTurns(10, 1), 6);
        due.due("nt 9", x.byTurns(9, 0), BAD);
        due.due("nt 40", x.byTurns(40, 0), BAD);
        due.due("nt -11", x.byTurns(-11, 0), BAD);
        due.due("nt least", x.byTurns(Integer.MIN_VALUE, 0), BAD);
        due.due("what -1", x.byTurns(11, -1), BAD);
        due.due("what 2", x.byTurns(11, 2), BAD);
        due.due("no cells", new HotStack().byTurns(39, 0), NOT);
        due.due("no cells", new HotStack().byTurns(39, 1), NOT);
        due.due("no cells and BAD", new HotStack().byTurns(9, 1), BAD);
        due.due("as it was", x.of(0, 1), 40);
        due.due("DAMP as it was", x.of(5, 0), 4);
    }

    /** Summers told by of() and the other calls alone: wet by mend(), in deed, and laid back. */
    private static int[] summers(HotStack x, int seed, int n, int m, int wet) {
        int z = seed;
        int glow = 0;
        int good = 0;
        x.image();
        for (int i = 0; i < n; i++) {
            for (int j = 0; j < m; j++) {
                z = z * 1103515245 + 12345;
                int column = (z >>> 8) % 6;
                int top = 5 * column + x.of(column, 8) - 1;
                if ((z >>> 16) % 12 < wet && x.of(column, 8) > 0) {
                    x.mend(top, 0, Math.min(9, x.of(top, 0) + 2));
                }
                x.day();
            }
            glow += x.count(1) > 0 ? 1 : 0;
            good += x.stack(0, 3);
            x.back();
        }
        return new int[] {glow, good};
    }

    private static void drawn() {
        due.promise(24);
        for (int wet = 0; wet <= 12; wet += 3) {
            for (int seed : new int[] {0, 7, -1, Integer.MIN_VALUE, 123456789}) {
                HotStack x = Due.stack("d-a+(n-h)/4", 50, 0, 130, 240, 300, 310, 320, 330, 340);
                x.mend(0, 1, 80);
                int nmw = 40900 + wet;
                int glow = x.drawn(seed, nmw, 0);
                int good = x.drawn(seed, nmw, 1);
                int[] want = summers(x, seed, 4, 9, wet);
                due.due("drawn glow", glow, want[0]);
                due.due("drawn good", good, want[1]);
            }
        }
        HotStack x = Due.stack("d", 0);
        due.due("dry: GOOD of 30 summers", x.drawn(1, 303000, 1), 30 * 99);
        due.due("dry: none GLOWS", x.drawn(1, 303000, 0), 0);
        x.mend(0, 1, 90);
        due.due("GLOWS at the end of each", x.drawn(1, 300100, 0), 30);
        HotStack y = Due.stack("-1", 0);
        y.mend(0, 1, 90);
        due.due("not at the end", y.drawn(1, 300100, 0), 0);
        due.due("n 0", x.drawn(1, 101, 0), BAD);
        due.due("n 31", x.drawn(1, 310101, 0), BAD);
        due.due("m 0", x.drawn(1, 10001, 0), BAD);
        due.due("m 31", x.drawn(1, 13101, 0), BAD);
        due.due("wet 13", x.drawn(1, 10113, 0), BAD);
        due.due("what -1", x.drawn(1, 10101, -1), BAD);
        due.due("what 2", x.drawn(1, 10101, 2), BAD);
        due.due("nmw below 0", x.drawn(1, -10101, 0), BAD);
        due.due("nmw least", x.drawn(1, Integer.MIN_VALUE, 0), BAD);
        due.due("nmw most", x.drawn(1, Integer.MAX_VALUE, 0), BAD);
        due.due("no cells", new HotStack().drawn(1, 303012, 1), 0);
    }
}
