/** Promises 9 to 16: days in thought. */
public final class DaysTest {
    private static final int BAD = -1, NOT = -2;
    private static final Due due = new Due();

    public static void main(String[] args) {
        later();
        stack();
        first();
        rods();
        rodsAt();
        turn();
        chimney();
        latest();
        nothingHappens();
        due.finish("DaysTest");
    }

    private static void later() {
        due.promise(9);
        HotStack x = Due.stack("10", 50);
        due.due("behind 0", x.later(0, 0, 0), 20);
        due.due("GOOD behind 1: 30 is not 40", x.later(1, 0, 2), 99);
        due.due("GOOD behind 2: 40 / 20", x.later(2, 0, 2), 97);
        due.due("DAMP behind 2: 40 is not 50", x.later(2, 0, 1), 5);
        due.due("DAMP behind 3", x.later(3, 0, 1), 4);
        due.due("GOOD behind 3: 50 / 20 cut", x.later(3, 0, 2), 95);
        due.due("HEAT behind 8", x.later(8, 0, 0), 99);
        due.due("DAMP behind 8", x.later(8, 0, 1), 0);
        due.due("GOOD behind 8: less 2 2 3 3 4 4 and, of 90, 4", x.later(7, 0, 2), 99 - 2 - 2 - 3 - 3 - 4 - 4);
        due.due("GOOD behind 40 is held", x.later(40, 0, 2), 0);
        HotStack y = Due.stack("-15", 50);
        due.due("HEAT is held at 0", y.later(2, 0, 0), 0);
        due.due("HEAT cools first, then GOOD is told by it", Due.stack("-15", 50).later(1, 0, 2), 99);
        y.mend(0, 1, 54);
        due.due("39 then: GOOD stays", y.later(1, 0, 2), 99);
        y.mend(0, 1, 64);
        due.due("49 then: DAMP stays", y.later(1, 0, 1), 5);
        y.mend(0, 1, 65);
        due.due("50 then: DAMP goes", y.later(1, 0, 1), 4);
        HotStack z = Due.stack("n-h", 0, 100);
        z.mend(0, 1, 30);
        z.mend(5, 1, 40);
        due.due("all as they stand when it begins", z.later(1, 0, 0), 40);
        due.due("both change places", z.later(1, 5, 0), 30);
        due.due("n -1", x.later(-1, 0, 0), BAD);
        due.due("n 41", x.later(41, 0, 0), BAD);
        due.due("cell 1", x.later(0, 1, 0), BAD);
        due.due("cell -1", x.later(0, -1, 0), BAD);
        due.due("cell 30", x.later(0, 30, 0), BAD);
        due.due("what -1", x.later(0, 0, -1), BAD);
        due.due("what 3", x.later(0, 0, 3), BAD);
    }

    private static void stack() {
        due.promise(10);
        HotStack x = Due.stack("l*5", 0, 0, 100, 100);
        due.due("of like ones the least", x.stack(0, 0), 0);
        due.due("the hottest", x.stack(1, 0), 1);
        due.due("its HEAT", x.stack(1, 1), 25);
        due.due("GLOW behind 13: 85", x.stack(13, 2), 0);
        due.due("GLOW behind 14: 90", x.stack(14, 2), 2);
        x.mend(0, 6, 30);
        due.due("GLOW at 30", x.stack(2, 2), 2);
        due.due("GLOW at 25", x.stack(1, 2), 0);
        due.due("GOOD of all", x.stack(3, 3), 396);
        due.due("GOOD of all, two of 40", x.stack(4, 3), 392);
        due.due("n -1", x.stack(-1, 0), BAD);
        due.due("n 41", x.stack(41, 0), BAD);
        due.due("what -1", x.stack(0, -1), BAD);
        due.due("what 4", x.stack(0, 4), BAD);
        due.due("no cells", new HotStack().stack(0, 0), NOT);
        due.due("no cells", new HotStack().stack(40, 1), NOT);
        due.due("no cells", new HotStack().stack(40, 2), 0);
        due.due("no cells", new HotStack().stack(40, 3), 0);
    }

    private static void first() {
        due.promise(11);
        HotStack x = Due.stack("d", 20, 10, 30);
        due.due("now", x.first(-1, 20), 0);
        due.due("HEAT 21 of any: DAMP 3 of cell 2", x.first(-1, 21), 1);
        due.due("of cell 1", x.first(1, 21), 1);
        due.due("of cell 1, 23", x.first(1, 23), 3);
        due.due("of cell 0, 23", x.first(0, 23), 2);
        due.due("of any, 23", x.first(-1, 23), 1);
        due.due("of any, behind the 10th 50", x.first(-1, 50), 10);
        due.due("cell 1 behind 30 is 50, then cools to no more", x.first(1, 51), NOT);
        due.due("behind 30", x.first(1, 50), 30);
        due.due("heat -1", x.first(0, -1), BAD);
        due.due("heat 100", x.first(0, 100), BAD);
        due.due("cell -2", x.first(-2, 0), BAD);
        due.due("cell 3", x.first(3, 0), BAD);
        due.due("cell 30", x.first(30, 0), BAD);
        due.due("no cells, any", new HotStack().first(-1, 0), NOT);
        HotStack y = Due.stack("1", 0);
        due.due("the 40th day counts", y.first(0, 60), 40);
        due.due("the 41st does not", y.first(0, 61), NOT);
    }

    private static HotStack square() {
        HotStack x = new HotStack();
        for (int column = 0; column < 6; column++) {
            for (int layer = 0; layer < 5; layer++) {
                x.cart(column, 0);
            }
        }
        return x;
    }

    private static void rods() {
        due.promise(12);
        HotStack x = square();
        due.due("no rods see 30 cells by 4", x.rods(20), NOT);
        due.due("none so hot", x.rods(21), 0);
        due.due("heat -1", x.rods(-1), BAD);
        due.due("heat 100", x.rods(100), BAD);
        x.mend(12, 1, 80);
        due.due("one", x.rods(80), 1);
        x.mend(0, 1, 80);
        due.due("two", x.rods(21), 2);
        x.mend(29, 1, 81);
        x.mend(4, 1, 82);
        due.due("four", x.rods(80), 4);
        due.due("two of 81 or more", x.rods(81), 2);
        due.due("heat 99: none", x.rods(99), 0);
        x.mend(25, 1, 80);
        due.due("five are beyond", x.rods(80), NOT);
        x.mend(12, 1, 20);
        due.due("four again", x.rods(80), 4);
        HotStack y = Due.stack(null, 0, 100, 200, 300, 400, 500);
        due.due("a row of six by two", y.rods(20), 2);
        due.due("no cells", new HotStack().rods(0), 0);
        HotStack z = Due.stack(null, 0, 200);
        due.due("rods only in cells that are there", z.rods(20), 2);
    }

    private static void rodsAt() {
        due.promise(13);
        HotStack x = square();
        due.due("heat -1", x.rodsAt(-1), Long.MIN_VALUE);
        due.due("heat 100", x.rodsAt(100), Long.MIN_VALUE);
        due.due("NOT", x.rodsAt(20), -2);
        due.due("none", x.rodsAt(21), 0);
        x.mend(12, 1, 80);
        due.due("of like ones the least: 7, left of 12", x.rodsAt(80), 1L << 7);
        x.mend(11, 1, 80);
        due.due("11 sees both, as 12", x.rodsAt(80), 1L << 11);
        x.mend(29, 1, 80);
        due.due("24 sees 29", x.rodsAt(80), 1L << 11 | 1L << 24);
        HotStack y = Due.stack(null, 0, 100, 200, 300, 400, 500);
        due.due("5 and 20", y.rodsAt(20), 1L << 5 | 1L << 20);
        HotStack above = Due.stack(null, 0, 0);
        above.mend(1, 1, 80);
        due.due("a rod below sees", above.rodsAt(80), 1L);
        HotStack over = Due.stack(null, 0, 0, 0, 100, 100);
        over.mend(0, 1, 80);
        over.mend(2, 1, 80);
        due.due("1 sees 0 and 2", over.rodsAt(80), 1L << 1);
        over.mend(2, 1, 20);
        over.mend(6, 1, 80);
        due.due("1 sees 0 and 6", over.rodsAt(80), 1L << 1);
        over.mend(0, 1, 20);
        over.mend(5, 1, 80);
        due.due("0 sees 5, 1 sees 6; 5 sees both", over.rodsAt(80), 1L << 5);
        HotStack z = Due.stack(null, 500);
        due.due("alone", z.rodsAt(0), 1L << 25);
        due.due("no cells", new HotStack().rodsAt(0), 0);
    }

    private static void turn() {
        due.promise(14);
        HotStack x = Due.stack("d", 50, 150, 250);
        x.mend(0, 1, 60);
        x.mend(5, 1, 70);
        x.mend(10, 1, 80);
        due.due("none turned", x.turn(0, 0, 0), 80);
        due.due("none: bits 0", x.turn(0, 0, 1), 0);
        due.due("one", x.turn(1, 0, 0), 70);
        due.due("column 2", x.turn(1, 0, 1), 4);
        due.due("two", x.turn(2, 0, 0), 60);
        due.due("columns 1, 2", x.turn(2, 0, 1), 6);
        due.due("three", x.turn(3, 0, 0), 20);
        due.due("columns 0 to 2", x.turn(3, 0, 1), 7);
        due.due("three, behind 2 days: DAMP 4 heats by 4", x.turn(3, 2, 0), 28);
        HotStack y = Due.stack("d", 0, 590);
        y.mend(0, 1, 90);
        y.mend(25, 0, 0);
        due.due("an empty column, too: of like ones the least", y.turn(2, 0, 1), 3);
        due.due("DAMP stays 0", y.turn(1, 20, 0), 20);
        HotStack z = Due.stack("d", 10, 0);
        z.mend(0, 0, 9);
        due.due("DAMP 8 heats by 8 to 52, then by 7, 6 .. 1", z.turn(1, 20, 0), 80);
        due.due("k -1", x.turn(-1, 0, 0), BAD);
        due.due("k 4", x.turn(4, 0, 0), BAD);
        due.due("n -1", x.turn(0, -1, 0), BAD);
        due.due("n 21", x.turn(0, 21, 0), BAD);
        due.due("n 20: 80 and 5, 4 .. 1", x.turn(0, 20, 0), 95);
        due.due("what -1", x.turn(0, 0, -1), BAD);
        due.due("what 2", x.turn(0, 0, 2), BAD);
        HotStack cold = Due.stack("-20", 0);
        due.due("0 is a HEAT, too", cold.turn(1, 1, 0), 0);
        due.due("0 is a HEAT, too", cold.turn(1, 1, 1), 1);
        due.due("no cells", new HotStack().turn(3, 20, 1), NOT);
        due.due("no cells", new HotStack().turn(3, 20, 0), NOT);
        due.due("no cells and BAD", new HotStack().turn(4, 20, 0), BAD);
    }

    private static void chimney() {
        due.promise(15);
        HotStack x = Due.stack("5-a", 100, 100, 400);
        due.due("two days of 2, 3, 2: column 1", x.chimney(2, 0), 1);
        due.due("5 of air 3, 2, 3", x.chimney(2, 1), 24);
        x.mend(1, 5, 1);
        due.due("the next", x.chimney(2, 0), 4);
        due.due("that", x.chimney(2, 1), 22);
        due.due("behind 0 all are like", x.chimney(0, 0), 0);
        x.mend(0, 5, 1);
        due.due("one that has none", x.chimney(0, 0), 2);
        for (int column = 0; column < 5; column++) {
            x.mend(column, 5, 1);
        }
        due.due("an empty column, too", x.chimney(3, 0), 5);
        x.mend(5, 5, 1);
        due.due("all have one", x.chimney(3, 0), NOT);
        due.due("all have one", x.chimney(3, 1), NOT);
        due.due("no cells", new HotStack().chimney(3, 0), NOT);
        due.due("no cells", new HotStack().chimney(3, 1), NOT);
        due.due("n -1", x.chimney(-1, 0), BAD);
        due.due("n 21", x.chimney(21, 0), BAD);
        due.due("what -1", x.chimney(0, -1), BAD);
        due.due("what 2", x.chimney(0, 2), BAD);
    }

    private static void latest() {
        due.promise(16);
        HotStack x = Due.stack("d>0?10;1", 50);
        due.due("90 behind 7 days; turned behind 6 it is 54 behind 40, turned now it would be 99", x.latest(), 6);
        x.mend(0, 6, 83);
        due.due("83 behind 7 days, too", x.latest(), 6);
        x.mend(0, 6, 80);
        due.due("80 behind 6; turned behind 5 it is 82 behind 40, turned ahead of it more", x.latest(), NOT);
        x.mend(0, 6, 30);
        due.due("30 behind 1 day, turned now, too", x.latest(), NOT);
        // Turned while its DAMP is 5 it cools for ever, turned behind the 5th day it heats to the end.
        HotStack u = Due.stack("d=4&h<40?-20;6", 50);
        due.due("90 behind 12 days", u.latest(), 4);
        u.mend(0, 6, 45);
        due.due("44 behind 4 days", u.latest(), 4);
        u.mend(0, 6, 44);
        due.due("no CELL may GLOW on the day before it is turned", u.latest(), 3);
        u.mend(0, 6, 32);
        due.due("32 behind 2 days", u.latest(), 1);
        u.mend(0, 1, 32);
        due.due("32 now", u.latest(), NOT);
        u.mend(0, 1, 26);
        due.due("32 behind 1 day", u.latest(), 0);
        HotStack y = Due.stack("0", 0);
        due.due("none GLOWS ever", y.latest(), NOT);
        y.mend(0, 1, 90);
        due.due("GLOWS now", y.latest(), NOT);
        HotStack z = Due.stack("2", 0);
        due.due("90 behind 35: 20 days at most", z.latest(), 20);
        z.mend(0, 6, 99);
        due.due("99 behind 40", z.latest(), 20);
        HotStack e = Due.stack("1", 0);
        e.mend(0, 1, 19);
        e.mend(0, 6, 41);
        due.due("41 behind 22 days; turned behind 20, 40 behind 40", e.latest(), 20);
        e.mend(0, 6, 40);
        due.due("turned behind 20 it GLOWS behind the 40th", e.latest(), NOT);
        HotStack w = Due.stack("1", 0);
        w.mend(0, 1, 50);
        due.due("90 behind the 40th", w.latest(), 20);
        w.mend(0, 1, 49);
        due.due("89 behind the 40th", w.latest(), NOT);
        due.due("no cells", new HotStack().latest(), NOT);
        HotStack v = Due.stack("h<22?1;d>0?d*2;0", 90);
        // DAMP goes day by day from 50 on: turned later there is less of it left to heat the cell anew.
        v.mend(0, 1, 30);
        v.mend(0, 6, 99);
        due.due("as the words say, day by day", v.latest(), byWords(v));
    }

    /** LATEST told by later() alone: turned in deed on each day, looked at, and laid back. */
    private static int byWords(HotStack x) {
        int found = NOT;
        x.image();
        if (x.first(-1, x.of(0, 6)) == NOT) {
            return NOT;
        }
        for (int day = 0; day <= 20 && x.count(1) == 0; day++) {
            HotStack now = x;
            now.image();
            for (int column = 0; column < 6; column++) {
                now.turned(column);
            }
            int glow = now.first(-1, now.of(0, 6));
            found = glow == NOT || glow > 40 - day ? day : found;
            now.back();
            x.day();
        }
        return found;
    }

    private static void nothingHappens() {
        due.part("in thought");
        HotStack x = Due.stack(null, 95, 93, 180, 291);
        x.later(40, 0, 0);
        x.stack(40, 2);
        x.first(-1, 99);
        x.turn(3, 20, 1);
        x.chimney(20, 0);
        x.latest();
        for (int cell : new int[] {0, 1, 5, 10}) {
            due.due("HEAT", x.of(cell, 1), 20);
            due.due("GOOD", x.of(cell, 2), 99);
        }
        due.due("DAMP", x.of(0, 0), 9);
        due.due("CHIMNEY", x.of(0, 5), 0);
        due.due("DAY", x.of(0, 7), 0);
        due.due("days", x.led(4), 0);
        due.due("turned", x.led(1), 0);
        due.due("changes", x.count(3), 0);
    }
}
