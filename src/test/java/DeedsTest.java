/** Promises 25 to 33: in deed, an image, changes undone and done again. */
public final class DeedsTest {
    private static final int BAD = -1, NOT = -2, STATE = -5;
    private static final Due due = new Due();

    public static void main(String[] args) {
        turned();
        salt();
        read();
        day();
        led();
        imageAndBack();
        undo();
        redo();
        changesAndDeeds();
        due.finish("DeedsTest");
    }

    private static void turned() {
        due.promise(25);
        HotStack x = Due.stack("d", 50, 0, 150);
        x.mend(0, 1, 70);
        x.mend(5, 1, 80);
        x.mend(0, 2, 33);
        due.due("column 0", x.turned(0), 2);
        due.due("HEAT", x.of(0, 1), 20);
        due.due("DAMP", x.of(0, 0), 4);
        due.due("DAMP 0 stays", x.of(1, 0), 0);
        due.due("GOOD stays", x.of(0, 2), 33);
        due.due("column 1 stays", x.of(5, 1), 80);
        due.due("its DAMP, too", x.of(5, 0), 5);
        due.due("an empty column", x.turned(5), 0);
        due.due("counts, too", x.led(1), 2);
        due.due("-1", x.turned(-1), BAD);
        due.due("6", x.turned(6), BAD);
        due.due("BAD does not count", x.led(1), 2);
    }

    private static void salt() {
        due.promise(26);
        HotStack x = Due.stack(null, 50, 0, 150);
        due.due("column 0", x.salt(0), 2);
        due.due("SALT of 0", x.of(0, 3), 1);
        due.due("SALT of 1", x.of(1, 3), 1);
        due.due("SALT of 5", x.of(5, 3), 0);
        x.cart(0, 0);
        due.due("what comes is not salted", x.of(2, 3), 0);
        due.due("an empty column", x.salt(4), 0);
        due.due("counts, too", x.led(2), 2);
        due.due("column 1", x.salt(1), 1);
        due.due("SALT of 5", x.of(5, 3), 1);
        HotStack y = Due.stack(null, 0, 0, 0, 0, 0, 150, 500);
        due.due("a full column", y.salt(0), 5);
        due.due("what lies beside it is not salted", y.of(5, 3), 0);
        due.due("column 5", y.salt(5), 1);
        due.due("SALT of 25", y.of(25, 3), 1);
        y.mend(5, 1, 70);
        due.due("a full column turned", y.turned(0), 5);
        due.due("what lies beside it is not", y.of(5, 1), 70);
        due.due("nor is its DAMP", y.of(5, 0), 5);
        due.due("again", x.salt(0), 3);
        due.due("-1", x.salt(-1), BAD);
        due.due("6", x.salt(6), BAD);
        due.due("BAD does not count", x.led(2), 4);
    }

    private static void read() {
        due.promise(27);
        HotStack x = Due.stack(null, 50, 250);
        due.due("none read", x.led(5), NOT);
        x.mend(0, 1, 0);
        due.due("HEAT 0", x.read(0), 0);
        due.due("hottest 0", x.led(5), 0);
        due.due("HEAT 20", x.read(10), 20);
        due.due("HEAT 0 again", x.read(0), 0);
        due.due("the hottest", x.led(5), 20);
        due.due("read", x.led(3), 3);
        due.due("cell 1", x.read(1), BAD);
        due.due("cell -1", x.read(-1), BAD);
        due.due("cell 30", x.read(30), BAD);
        due.due("BAD does not count", x.led(3), 3);
    }

    private static void day() {
        due.promise(28);
        HotStack x = Due.stack("d", 90, 180);
        for (int i = 1; i <= 3; i++) {
            due.due("no GLOW", x.day(), 0);
            due.due("DAY", x.of(0, 7), i);
        }
        due.due("HEAT", x.of(0, 1), 47);
        due.due("GOOD: 47 / 20", x.of(0, 2), 97);
        due.due("DAMP", x.of(0, 0), 9);
        due.due("HEAT of the other", x.of(5, 1), 44);
        due.due("56", x.day(), 0);
        due.due("DAMP", x.of(0, 0), 8);
        x.mend(0, 1, 85);
        x.mend(0, 6, 93);
        due.due("93 GLOWS", x.day(), 1);
        due.due("GOOD: of 56 and 93", x.of(0, 2), 97 - 2 - 4);
        x.mend(0, 7, 98);
        x.day();
        due.due("DAY 99", x.of(0, 7), 99);
        x.day();
        due.due("99 stays", x.of(0, 7), 99);
        due.due("days go on", x.led(4), 7);
        due.due("no cells", new HotStack().day(), 0);
        HotStack y = Due.stack("n-h", 0, 100);
        y.mend(0, 1, 40);
        y.day();
        due.due("all at once", y.of(0, 1), 20);
        due.due("all at once", y.of(5, 1), 40);
        due.due("GOOD of 40", y.of(5, 2), 97);
    }

    private static void led() {
        due.promise(29);
        HotStack x = Due.stack(null, 50, 51, 150, 250);
        x.turned(0);
        x.turned(5);
        x.salt(1);
        x.read(0);
        x.read(1);
        x.read(1);
        for (int i = 0; i < 5; i++) {
            x.day();
        }
        int[] want = {4, 2, 1, 3, 5, 20};
        for (int what = 0; what <= 5; what++) {
            due.due("led " + what, x.led(what), want[what]);
        }
        due.due("-1", x.led(-1), BAD);
        due.due("6", x.led(6), BAD);
    }

    private static void imageAndBack() {
        due.promise(31);
        HotStack x = Due.stack("d", 93, 182);
        due.due("none yet", x.back(), STATE);
        x.day();
        x.read(0);
        x.mend(0, 7, 50);
        due.promise(30);
        due.due("days", x.image(), 1);
        due.promise(31);
        x.mend(2, 5, 1);
        x.mend(0, 6, 40);
        x.mend(0, 7, 60);
        x.mend(0, 4, 8);
        x.mend(5, 3, 1);
        x.mend(5, 2, 11);
        x.cart(0, 11);
        x.cart(4, 11);
        x.turned(0);
        x.salt(0);
        x.day();
        x.day();
        x.mend(0, 1, 99);
        x.read(0);
        due.due("days", x.back(), 1);
        int[][] kept = {{0, 0, 9}, {0, 1, 29}, {0, 2, 99}, {0, 3, 0}, {0, 4, 3}, {5, 2, 99}, {5, 3, 0}, {0, 7, 50},
            {0, 8, 1}, {4, 8, 0}, {1, 8, 1}};
        for (int[] k : kept) {
            due.due("of(" + k[0] + ", " + k[1] + ")", x.of(k[0], k[1]), k[2]);
        }
        due.due("chimneys stay", x.of(2, 5), 1);
        due.due("GLOWS stays", x.of(0, 6), 40);
        int[] led = {2, 0, 0, 1, 1, 29};
        for (int what = 0; what <= 5; what++) {
            due.due("led " + what, x.led(what), led[what]);
        }
        x.day();
        x.day();
        due.due("laid back again", x.back(), 1);
        due.due("HEAT", x.of(0, 1), 29);
        x.day();
        due.promise(30);
        due.due("a later image", x.image(), 2);
        x.day();
        due.promise(31);
        due.due("is laid back", x.back(), 2);
        due.due("HEAT", x.of(0, 1), 38);
        HotStack y = new HotStack();
        due.due("an image of nothing", y.image(), 0);
        y.cart(0, 0);
        y.read(0);
        due.due("laid back", y.back(), 0);
        due.due("no cells", y.count(0), 0);
        due.due("none read", y.led(5), NOT);
    }

    private static void undo() {
        due.promise(32);
        HotStack x = Due.stack(null, 52, 150);
        due.due("none", x.undo(), STATE);
        int[][] all = {{0, 0, 9}, {0, 1, 55}, {0, 2, 44}, {0, 3, 1}, {0, 4, 7}, {3, 5, 1}, {0, 6, 60}, {0, 7, 33}};
        int[] was = new int[8];
        for (int i = 0; i < 8; i++) {
            was[i] = x.mend(all[i][0], all[i][1], all[i][2]);
        }
        due.due("may be undone", x.count(3), 8);
        for (int i = 7; i >= 0; i--) {
            due.due("it is", x.of(all[i][0], all[i][1]), all[i][2]);
            due.due("undo", x.undo(), i);
            due.due("it was", x.of(all[i][0], all[i][1]), was[i]);
            due.due("may be undone", x.count(3), i);
        }
        due.due("none any more", x.undo(), STATE);
        for (int i = 0; i < 45; i++) {
            x.mend(0, 1, 40 + i);
        }
        due.due("40 at most", x.count(3), 40);
        for (int i = 39; i >= 0; i--) {
            due.due("undo", x.undo(), i);
        }
        due.due("the five first stay", x.of(0, 1), 44);
        due.due("none any more", x.undo(), STATE);
        for (int i = 1; i <= 40; i++) {
            due.due("redo", x.redo(), 40 - i);
        }
        due.due("all again", x.of(0, 1), 84);
        due.due("none any more", x.redo(), STATE);
        manyChanges();
    }

    /** More changes than are kept, each of another number: all that are kept go back and forth one by one. */
    private static void manyChanges() {
        HotStack x = Due.stack(null, 50, 150, 250, 350, 450, 550);
        for (int i = 0; i < 47; i++) {
            due.due("mend", x.mend(5 * (i % 6), i % 5 == 3 ? 1 : 2, i + 1), beforeOf(i));
        }
        for (int i = 46; i >= 7; i--) {
            due.due("it is", x.of(5 * (i % 6), i % 5 == 3 ? 1 : 2), i + 1);
            due.due("undo", x.undo(), i - 7);
            due.due("it was", x.of(5 * (i % 6), i % 5 == 3 ? 1 : 2), beforeOf(i));
        }
        for (int i = 7; i <= 46; i++) {
            due.due("redo", x.redo(), 46 - i);
            due.due("it is again", x.of(5 * (i % 6), i % 5 == 3 ? 1 : 2), i + 1);
        }
    }

    /** What the i-th change of those many found: what the latest one of the same number told. */
    private static int beforeOf(int i) {
        for (int j = i - 6; j >= 0; j -= 6) {
            if ((j % 5 == 3) == (i % 5 == 3)) {
                return j + 1;
            }
        }
        return i % 5 == 3 ? 20 : 99;
    }

    private static void redo() {
        due.promise(33);
        HotStack x = Due.stack(null, 52, 150);
        due.due("none", x.redo(), STATE);
        x.mend(0, 0, 1);
        x.mend(0, 0, 2);
        x.mend(0, 0, 3);
        due.due("none undone yet", x.redo(), STATE);
        x.undo();
        x.undo();
        due.due("redo", x.redo(), 1);
        due.due("it is", x.of(0, 0), 2);
        due.due("redo", x.redo(), 0);
        due.due("it is", x.of(0, 0), 3);
        due.due("none", x.redo(), STATE);
        x.undo();
        x.undo();
        due.due("the same number is no change", x.mend(0, 0, 1), 1);
        due.due("BAD is none", x.mend(0, 0, 10), BAD);
        due.due("redo still", x.redo(), 1);
        due.due("another change", x.mend(5, 1, 9), 20);
        due.due("no redo behind it", x.redo(), STATE);
        due.due("may be undone", x.count(3), 3);
        due.due("undo", x.undo(), 2);
        due.due("undo", x.undo(), 1);
        due.due("it is", x.of(0, 0), 1);
        due.due("HEAT of 5", x.of(5, 1), 20);
    }

    private static void changesAndDeeds() {
        due.promise(33);
        HotStack x = Due.stack("d", 50);
        x.mend(0, 1, 30);
        x.day();
        x.turned(0);
        x.salt(0);
        x.cart(0, 0);
        due.due("deeds are no changes", x.count(3), 1);
        due.due("a day between", x.undo(), 0);
        due.due("what it was ahead of the change", x.of(0, 1), 20);
        x.day();
        due.due("done again", x.redo(), 0);
        due.due("what it became", x.of(0, 1), 30);
        x.undo();
        x.image();
        x.mend(1, 0, 7);
        x.back();
        due.due("an image undoes no change", x.count(3), 1);
        due.due("cell 1 is dry again", x.of(1, 0), 0);
        due.due("done again? another came behind", x.redo(), STATE);
        HotStack y = new HotStack();
        y.image();
        y.cart(3, 15);
        y.mend(15, 0, 6);
        y.mend(15, 4, 9);
        y.back();
        due.due("nothing lies there", y.of(15, 0), BAD);
        due.due("undone unseen", y.undo(), 1);
        y.cart(3, 88);
        due.due("another lies there", y.of(15, 4), 8);
        due.due("undone there", y.undo(), 0);
        due.due("DAMP of the place", y.of(15, 0), 1);
        due.due("done again there", y.redo(), 1);
        due.due("DAMP", y.of(15, 0), 6);
        due.due("done again there", y.redo(), 0);
        due.due("LOAD", y.of(15, 4), 9);
        HotStack z = new HotStack();
        z.mend(0, 7, 5);
        z.day();
        due.due("DAY", z.of(0, 7), 6);
        z.undo();
        due.due("DAY undone", z.of(0, 7), 0);
        z.redo();
        due.due("DAY done again", z.of(0, 7), 5);
        z.mend(0, 6, 50);
        z.mend(4, 5, 1);
        z.undo();
        due.due("CHIMNEY undone", z.of(4, 5), 0);
        z.undo();
        due.due("GLOWS undone", z.of(0, 6), 90);
    }
}
