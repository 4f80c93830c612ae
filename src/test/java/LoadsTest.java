/** Promises 1 to 8: a new object, loads, cells, the tape and the law. */
public final class LoadsTest {
    private static final int BAD = -1, NOT = -2, FULL = -3, VOID = -2000000000;
    private static final Due due = new Due();

    public static void main(String[] args) {
        newObject();
        cart();
        loads();
        mend();
        of();
        feed();
        faults();
        laws();
        values();
        unlikeCells();
        plainLaw();
        due.finish("LoadsTest");
    }

    private static void newObject() {
        due.promise(1);
        HotStack x = new HotStack();
        for (int i = 0; i <= 5; i++) {
            due.due("count " + i, x.count(i), 0);
            due.due("of HIGH " + i, x.of(i, 8), 0);
            due.due("of CHIMNEY " + i, x.of(i, 5), 0);
            due.due("led " + i, x.led(i), i == 5 ? NOT : 0);
            due.due("element " + i, x.element(i, 0), Long.MIN_VALUE);
            due.due("put " + i, x.put(i, 0, 1), -11);
        }
        due.due("GLOWS", x.of(0, 6), 90);
        due.due("DAY", x.of(0, 7), 0);
        for (int cell = -1; cell <= 30; cell++) {
            due.due("heats " + cell, x.heats(cell), VOID);
        }
        due.due("back", x.back(), -5);
        due.due("undo", x.undo(), -5);
        due.due("redo", x.redo(), -5);
        HotStack y = new HotStack();
        x.cart(0, 55);
        due.due("another object's cells", y.count(0), 0);
    }

    private static void cart() {
        due.promise(2);
        HotStack x = new HotStack();
        due.due("column -1", x.cart(-1, 0), BAD);
        due.due("column 6", x.cart(6, 0), BAD);
        due.due("dl -1", x.cart(0, -1), BAD);
        due.due("dl 100", x.cart(0, 100), BAD);
        for (int column = 0; column <= 5; column++) {
            for (int layer = 0; layer <= 4; layer++) {
                due.due("cart", x.cart(column, 10 * column + layer), 5 * column + layer);
                due.due("HIGH", x.of(column, 8), layer + 1);
            }
            due.due("full", x.cart(column, 11), FULL);
            due.due("full and BAD", x.cart(column, 100), BAD);
        }
        due.due("cells", x.count(0), 30);
        due.due("carted", x.led(0), 30);
        due.due("DAMP", x.of(17, 0), 3);
        due.due("HEAT", x.of(17, 1), 20);
        due.due("GOOD", x.of(17, 2), 99);
        due.due("SALT", x.of(17, 3), 0);
        due.due("LOAD", x.of(17, 4), 2);
        HotStack y = new HotStack();
        y.image();
        y.cart(2, 99);
        y.mend(10, 1, 50);
        y.mend(10, 2, 7);
        y.mend(10, 3, 1);
        y.back();
        due.due("cart anew", y.cart(2, 10), 10);
        due.due("HEAT as it comes", y.of(10, 1), 20);
        due.due("GOOD as it comes", y.of(10, 2), 99);
        due.due("SALT as it comes", y.of(10, 3), 0);
        due.due("DAMP as told", y.of(10, 0), 1);
        due.due("LOAD as told", y.of(10, 4), 0);
    }

    private static void loads() {
        due.promise(3);
        HotStack x = new HotStack();
        due.due("shelf -1", x.loads(-1, 0, 1), BAD);
        due.due("shelf 6", x.loads(6, 0, 1), BAD);
        due.due("n 0", x.loads(0, 0, 0), BAD);
        due.due("n 21", x.loads(0, 0, 21), BAD);
        due.due("missing", x.loads(0, 0, 1), 0);
        x.body(0);
        x.keep(1, 0);
        due.due("a body", x.loads(1, 0, 1), -12);
        due.due("a body, n 21", x.loads(1, 0, 21), BAD);
        for (int sort = 1; sort <= 4; sort++) {
            x.row(1, sort, 9);
            due.due("sort " + sort, x.loads(1, 0, 1), -12);
            due.due("sort " + sort + ", i below 0", x.loads(1, -1, 1), -12);
        }
        Due.bytes(x, 0, 0, 9, 1, 5, 0, 9, 2, 3, 4);
        due.due("i below 0", x.loads(0, -1, 3), 0);
        due.due("i least", x.loads(0, Integer.MIN_VALUE, 20), 0);
        due.due("i at the end", x.loads(0, 9, 3), 0);
        due.due("i most", x.loads(0, Integer.MAX_VALUE, 20), 0);
        due.due("no cells yet", x.count(0), 0);
        due.due("all three", x.loads(0, 0, 3), 3);
        due.due("cells", x.count(0), 3);
        due.due("carted", x.led(0), 3);
        due.due("DAMP of 25", x.of(25, 0), 0);
        due.due("LOAD of 25", x.of(25, 4), 9);
        due.due("DAMP of 10", x.of(10, 0), 3);
        due.due("LOAD of 10", x.of(10, 4), 4);
        due.due("fewer than asked", x.loads(0, 3, 20), 2);
        due.due("n less than there", x.loads(0, 0, 2), 2);
        due.due("no more than n came", x.count(0), 7);
        due.due("carted", x.led(0), 7);
        due.due("within a three", x.loads(0, 7, 1), 0);
        due.due("a whole last three", x.loads(0, 6, 1), 1);
        due.due("from within, COLUMN 5, DAMP 0, LOAD 9", x.loads(0, 3, 1), 1);
        long[][] bad = {{6, 0, 0}, {-1, 0, 0}, {0, 10, 0}, {0, -1, 0}, {0, 0, 10}, {0, 0, -1}};
        for (long[] three : bad) {
            HotStack y = new HotStack();
            Due.bytes(y, 3, 1, 2, 3, three[0], three[1], three[2], 1, 2, 3);
            due.due("not as it may be", y.loads(3, 0, 3), 1);
            due.due("carted ahead", y.led(0), 1);
            due.due("cells ahead", y.count(0), 1);
        }
        HotStack z = new HotStack();
        Due.bytes(z, 5, 4, 1, 1, 4, 1, 1, 4, 1, 1, 4, 1, 1, 4, 1, 1, 4, 1, 1, 0, 1, 1);
        due.due("a full column", z.loads(5, 0, 8), 5);
        due.due("carted", z.led(0), 5);
        due.due("none behind it", z.of(0, 8), 0);
        HotStack w = new HotStack();
        w.row(0, 0, 60);
        for (int i = 0; i < 20; i++) {
            w.put(0, 3 * i, i % 6);
        }
        due.due("twenty", w.loads(0, 0, 20), 20);
        due.due("twenty cells", w.count(0), 20);
    }

    private static void mend() {
        due.promise(4);
        HotStack x = Due.stack(null, 255, 266);
        int[] least = {0, 0, 0, 0, 0};
        int[] most = {9, 99, 99, 1, 9};
        int[] now = {5, 20, 99, 0, 5};
        for (int what = 0; what < 5; what++) {
            due.due("too small", x.mend(10, what, least[what] - 1), BAD);
            due.due("too large", x.mend(10, what, most[what] + 1), BAD);
            due.due("unchanged", x.of(10, what), now[what]);
            due.due("to the most", x.mend(10, what, most[what]), now[what]);
            due.due("to the least", x.mend(10, what, least[what]), most[what]);
            due.due("it is", x.of(10, what), least[what]);
            due.due("no such cell", x.mend(12, what, 0), BAD);
            due.due("no such cell", x.mend(-1, what, 0), BAD);
            due.due("no such cell", x.mend(30, what, 0), BAD);
            due.due("no such cell", x.mend(0, what, 0), BAD);
        }
        for (int column = 0; column <= 5; column++) {
            due.due("chimney", x.mend(column, 5, 1), 0);
            due.due("chimney again", x.mend(column, 5, 1), 1);
            due.due("chimney 2", x.mend(column, 5, 2), BAD);
            due.due("chimney -1", x.mend(column, 5, -1), BAD);
        }
        due.due("column -1", x.mend(-1, 5, 1), BAD);
        due.due("column 6", x.mend(6, 5, 1), BAD);
        due.due("glows 29", x.mend(0, 6, 29), BAD);
        due.due("glows 100", x.mend(0, 6, 100), BAD);
        due.due("glows of 1", x.mend(1, 6, 50), BAD);
        due.due("glows 30", x.mend(0, 6, 30), 90);
        due.due("glows 99", x.mend(0, 6, 99), 30);
        due.due("day -1", x.mend(0, 7, -1), BAD);
        due.due("day 100", x.mend(0, 7, 100), BAD);
        due.due("day of -1", x.mend(-1, 7, 1), BAD);
        due.due("day 99", x.mend(0, 7, 99), 0);
        due.due("day it is", x.of(0, 7), 99);
        due.due("what -1", x.mend(0, -1, 0), BAD);
        due.due("what 8", x.mend(0, 8, 0), BAD);
        due.due("what least", x.mend(0, Integer.MIN_VALUE, 0), BAD);
        HotStack y = Due.stack(null, 100);
        due.due("the same number", y.mend(5, 1, 20), 20);
        due.due("is no change", y.count(3), 0);
        due.due("BAD", y.mend(5, 1, 100), BAD);
        due.due("is no change either", y.count(3), 0);
        due.due("another number", y.mend(5, 1, 21), 20);
        due.due("is one", y.count(3), 1);
    }

    private static void of() {
        due.promise(5);
        HotStack x = Due.stack(null, 357, 312);
        due.due("DAMP", x.of(15, 0), 5);
        due.due("HEAT", x.of(15, 1), 20);
        due.due("GOOD", x.of(15, 2), 99);
        due.due("SALT", x.of(15, 3), 0);
        due.due("LOAD", x.of(15, 4), 7);
        due.due("DAMP above", x.of(16, 0), 1);
        due.due("HIGH", x.of(3, 8), 2);
        due.due("HIGH of -1", x.of(-1, 8), BAD);
        due.due("HIGH of 6", x.of(6, 8), BAD);
        due.due("CHIMNEY of 6", x.of(6, 5), BAD);
        due.due("CHIMNEY of -1", x.of(-1, 5), BAD);
        due.due("GLOWS of 1", x.of(1, 6), BAD);
        due.due("DAY of 1", x.of(1, 7), BAD);
        due.due("what 9", x.of(0, 9), BAD);
        due.due("what -1", x.of(15, -1), BAD);
        for (int what = 0; what < 5; what++) {
            due.due("no such cell", x.of(17, what), BAD);
            due.due("no such cell", x.of(14, what), BAD);
            due.due("no such cell", x.of(-1, what), BAD);
            due.due("no such cell", x.of(30, what), BAD);
        }
    }

    private static void feed() {
        due.promise(6);
        HotStack x = new HotStack();
        due.due("-1", x.feed(-1), BAD);
        due.due("256", x.feed(256), BAD);
        due.due("0", x.feed(0), 1);
        due.due("255", x.feed(255), 2);
        for (int i = 3; i <= 120; i++) {
            due.due("feed", x.feed('d'), i);
        }
        due.due("full", x.feed('d'), FULL);
        due.due("full and BAD", x.feed(256), BAD);
        due.due("on the tape", x.count(2), 120);
        due.due("law", x.law(), -100);
        due.due("empty then", x.count(2), 0);
        due.due("feed anew", x.feed('d'), 1);
    }

    private static void fault(String text, int place) {
        HotStack x = Due.stack(null, 0);
        due.due("law of " + text, Due.tell(x, text), place < 0 ? 1 : -100 - place);
        due.due("tape behind " + text, x.count(2), 0);
    }

    private static String times(String part, int n) {
        StringBuilder b = new StringBuilder();
        for (int i = 0; i < n; i++) {
            b.append(part);
        }
        return b.toString();
    }

    private static void faults() {
        due.promise(7);
        for (String good : new String[] {"0", "d", "9999", "0000", "d+h-a*s/n%l", "d?h", "d;h", "d?h;a?s;n", "1;2;3",
                "(d)", "!d", "-d", "!-!-!-d", "((((((d))))))", "(!(-(!d)))", "-1+-1", "2--3", "d<h|a=s&n>l", "(d<h)<a",
                "(d<h)=(a>s)", "-(d)*-(h)", "!(d)&!(h)", "(((((-d)))))+(((((-d)))))", "d?h<a;1", "-----1+1--1",
                times("d;", 59) + "d", times("d+", 59) + "d", "1" + times("+0", 59)}) {
            fault(good, -1);
        }
        fault("", 0);
        fault(" ", 0);
        fault("d ", 1);
        fault("D", 0);
        fault("x", 0);
        fault("12345", 4);
        fault("1234d", 4);
        fault("d1", 1);
        fault("dd", 1);
        fault("1d", 1);
        fault("d(", 1);
        fault("d!", 1);
        fault(")", 0);
        fault("d)", 1);
        fault("(d))", 3);
        fault("()", 1);
        fault("(d", 2);
        fault("(d+", 3);
        fault("(", 1);
        fault("d+", 2);
        fault("d++d", 2);
        fault("+d", 0);
        fault("*d", 0);
        fault("!", 1);
        fault("!*d", 1);
        fault("-", 1);
        fault("d<h<a", 3);
        fault("d<h=a", 3);
        fault("d=h+1>a", 5);
        fault("d<=h", 2);
        fault("d==h", 2);
        fault("d&&h", 2);
        fault("d||h", 2);
        fault("d?", 2);
        fault("?d", 0);
        fault("d?h?a", 3);
        fault("(d?h)", 2);
        fault("(d;h)", 2);
        fault("d;", 2);
        fault(";d", 0);
        fault("d;;h", 2);
        fault("d?;h", 2);
        fault("d?h;a?", 6);
        fault("!!!!!!!d", 6);
        fault("-------d", 6);
        fault("(((((((d)))))))", 6);
        fault("(!-(!-(d", 6);
        fault("d+!-!-!--d", 8);
        fault("((((((!d))))))", 6);
        fault("((((((d)))))", 12);
        fault("!!!!!!(d)", 6);
        fault("d" + (char) 0, 1);
        fault("d" + (char) 255, 1);
        fault(times("d;", 60), 120);
        fault(times("d+", 60), 120);
        fault(times("d", 120), 1);
        fault("d+h\n", 3);
    }

    private static void laws() {
        due.promise(7);
        HotStack x = Due.stack("7", 50);
        due.due("heats 7", x.heats(0), 7);
        due.due("a faulty text", Due.tell(x, "8+"), -102);
        due.due("leaves the law", x.heats(0), 7);
        due.due("a text faulty at once", Due.tell(x, "+8"), -100);
        due.due("leaves the law, too", x.heats(0), 7);
        due.due("another one", Due.tell(x, "x9"), -100);
        due.due("leaves the law, too", x.heats(0), 7);
        due.due("an empty text", x.law(), -100);
        due.due("leaves the law too", x.heats(0), 7);
        due.due("another", Due.tell(x, "9"), 1);
        due.due("counts", x.heats(0), 9);
        x.image();
        Due.tell(x, "3");
        x.back();
        due.due("no image keeps the law", x.heats(0), 3);
        due.due("nor is it undone", x.undo(), -5);
        HotStack y = Due.stack("d", 50);
        due.due("by DAMP", y.heats(0), 5);
        due.due("faulty at once", Due.tell(y, "+8"), -100);
        y.mend(0, 0, 3);
        due.due("by DAMP still", y.heats(0), 3);
    }

    private static void value(String law, int want) {
        // Cell 6: d 7, h 30, a 2 (above; right), s 1, n (21 + 40) / 2 = 30, l 1.
        HotStack x = Due.stack(null, 10, 45, 170, 175);
        due.due("law " + law, Due.tell(x, law), 1);
        x.cart(0, 11);
        x.mend(6, 1, 30);
        x.mend(6, 3, 1);
        x.mend(1, 1, 40);
        x.mend(5, 1, 21);
        due.due("heats by " + law, x.heats(6), want);
        due.due("again", x.heats(6), want);
    }

    private static void values() {
        due.promise(8);
        value("d", 7);
        value("h/2", 15);
        value("h-10", 20);
        value("h", 20);
        value("a", 2);
        value("s", 1);
        value("n", 20);
        value("n-20", 10);
        value("l", 1);
        value("0-99", -20);
        value("-20", -20);
        value("-21", -20);
        value("21", 20);
        value("-19", -19);
        value("19", 19);
        value("2+3*4", 14);
        value("(2+3)*4", 20);
        value("10-3-2", 5);
        value("20/3/2", 3);
        value("20/3*3", 18);
        value("19%7%3", 2);
        value("-7/2", -3);
        value("-7%4", -3);
        value("7%-4", 3);
        value("7/0", 0);
        value("7%0", 0);
        value("7/(l-1)+3", 3);
        value("1|0", 1);
        value("5|0", 1);
        value("0|0", 0);
        value("0|0|7", 1);
        value("5&3", 1);
        value("5&0", 0);
        value("0&5|1", 1);
        value("1|0&0", 1);
        value("3<5", 1);
        value("5<5", 0);
        value("5=5", 1);
        value("5=4", 0);
        value("5>4", 1);
        value("5>5", 0);
        value("1+1<3", 1);
        value("1<3&2", 1);
        value("!0", 1);
        value("!5", 0);
        value("!!5", 1);
        value("-!0", -1);
        value("!-1", 0);
        value("--4", 4);
        value("3--4", 7);
        value("-2*3", -6);
        value("!0+4", 5);
        value("!1=0", 1);
        // 9999 * 9999 * 9999 wraps to a number above 0, 50000 * 50000 to one below.
        value("9999*9999*9999%10", wrapped(9999) % 10);
        value("5000*10*5000*10<0", 1);
        value("-5000*10*5000*10>0", 1);
        value("1+2*-d", -13);
        value("1+2*!0", 3);
        value("1-(2-(3-(4-(5-d))))", -4);
        value("9-(8-(7-(6-(5-(4-(3-1))))))", 5);
        value("0|1&2<3+4*(0|5&6<7+8*(0|1&0<1+2*-(3-4)))", 1);
        value("9-2*(1+3*(2+0*(7+-(5-1))))", -5);
        value("0?5", 0);
        value("1?5", 5);
        value("-1?5", 5);
        value("0?5;6", 6);
        value("1?5;6", 5);
        value("5;6", 5);
        value("0;6", 0);
        value("0?1;0?2", 0);
        value("0?1;2?3;4", 3);
        value("d=7&l?3;9", 3);
        value("d=8|l=2?3;9", 9);
        due.due("no such cell", Due.stack("d", 0).heats(1), VOID);
        due.due("no such cell", Due.stack("d", 0).heats(-1), VOID);
        due.due("no such cell", Due.stack("d", 0).heats(30), VOID);
    }

    /** One object, many cells and days: what it heated by once is not taken for another's. */
    private static void unlikeCells() {
        due.promise(8);
        HotStack x = Due.stack("(d*7+h*3+a*11+s*17+n*5+l*13)%41-20", 0, 10, 120, 130, 140, 350);
        int[] cells = {0, 1, 5, 6, 7, 15};
        int[] airs = {1, 1, 1, 1, 3, 3};
        for (int round = 0; round < 9; round++) {
            for (int cell : cells) {
                x.mend(cell, 0, (round * 4 + cell) % 10);
                x.mend(cell, 1, (round * 13 + cell * 7) % 100);
                x.mend(cell, 3, (round + cell) % 2);
            }
            for (int i = 0; i < cells.length; i++) {
                int c = cells[i];
                int[] beside = c == 0 ? new int[] {1, 5} : c == 1 ? new int[] {0, 6} : c == 5 ? new int[] {0, 6}
                    : c == 6 ? new int[] {5, 7, 1} : c == 7 ? new int[] {6} : new int[] {};
                int sum = 0;
                for (int b : beside) {
                    sum += (round * 13 + b * 7) % 100;
                }
                int n = beside.length == 0 ? 20 : sum / beside.length;
                int air = airs[i] + (c == 1 ? 1 : 0);
                int want = (round * 4 + c) % 10 * 7 + (round * 13 + c * 7) % 100 * 3 + air * 11
                    + (round + c) % 2 * 17 + n * 5 + c % 5 * 13;
                due.due("cell " + c + " in round " + round, x.heats(c), want % 41 - 20);
            }
        }
    }

    private static int wrapped(int first) {
        return first * 9999 * 9999;
    }

    private static void plainLaw() {
        due.promise(8);
        HotStack x = Due.stack(null, 240);
        due.due("alone: 8 less 3", x.heats(10), 5);
        x.mend(2, 5, 1);
        due.due("with a chimney", x.heats(10), 3);
        x.mend(10, 3, 1);
        due.due("with salt", x.heats(10), -1);
        x.mend(10, 1, 27);
        due.due("(20 - 27) by 4 is -1", x.heats(10), -2);
        x.cart(2, 0);
        x.mend(11, 1, 99);
        due.due("beside it 99, no air above", x.heats(10), 8 - 4 - 4 + 18);
        x.cart(1, 0);
        due.due("n is cut: (99 + 20) / 2 = 59", x.heats(10), 8 - 3 - 4 + 8);
        HotStack y = Due.stack("a", 0, 0, 0, 0, 0, 100, 100, 100, 100, 100, 200, 200, 200, 200, 200, 500);
        due.due("below is no air", y.heats(5), 0);
        due.due("above LAYER 4", y.heats(9), 1);
        due.due("left of COLUMN 0", y.heats(0), 1);
        due.due("left of 0, above 4", y.heats(4), 2);
        due.due("right of COLUMN 5, alone", y.heats(25), 3);
        due.due("right of 2", y.heats(10), 1);
        HotStack z = Due.stack("n-10", 0, 0, 100);
        z.mend(0, 1, 30);
        z.mend(1, 1, 13);
        due.due("none beside: 20", Due.stack("n-10", 300).heats(15), 10);
        due.due("n of 1 is of 0 alone", z.heats(1), 20);
        due.due("n of 5 is of 0", z.heats(5), 20);
        due.due("n of 0: (13 + 20) / 2", z.heats(0), 6);
        HotStack w = Due.stack(null, 0, 190);
        w.mend(0, 1, 99);
        due.due("held at the least", w.heats(0), -20);
        w.mend(5, 1, 0);
        due.due("held at the most", w.heats(5), 20);
        HotStack v = Due.stack("1", 0);
        v.mend(0, 1, 99);
        due.due("what the law gives, whatever HEAT there is", v.heats(0), 1);
    }
}
