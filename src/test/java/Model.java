import java.util.ArrayList;
import java.util.HashMap;
import java.util.List;
import java.util.Map;

/**
 * The document once more, as slowly and plainly as can be, by other means than the class: cells are objects, the
 * grammar is a recogniser of spans, searches try everything. ModelTest lets both answer the same calls.
 */
final class Model {
    static final int BAD = -1, NOT = -2, FULL = -3, STATE = -5, VOID = -2000000000;

    static final class Cell implements Cloneable {
        int damp, heat = 20, good = 99, salt, load;

        Cell copy() {
            Cell c = new Cell();
            c.damp = damp;
            c.heat = heat;
            c.good = good;
            c.salt = salt;
            c.load = load;
            return c;
        }
    }

    final class Stack {
        List<List<Cell>> columns = new ArrayList<>();
        boolean[] chimney = new boolean[6];
        int glows = 90;

        Stack() {
            for (int i = 0; i < 6; i++) {
                columns.add(new ArrayList<>());
            }
        }

        Stack copy() {
            Stack s = new Stack();
            for (int i = 0; i < 6; i++) {
                for (Cell c : columns.get(i)) {
                    s.columns.get(i).add(c.copy());
                }
            }
            s.chimney = chimney.clone();
            s.glows = glows;
            return s;
        }

        Cell at(int column, int layer) {
            if (column < 0 || column > 5 || layer < 0 || layer >= columns.get(column).size()) {
                return null;
            }
            return columns.get(column).get(layer);
        }

        Cell cell(int number) {
            return number < 0 || number > 29 ? null : at(number / 5, number % 5);
        }

        List<Integer> there() {
            List<Integer> l = new ArrayList<>();
            for (int i = 0; i < 30; i++) {
                if (cell(i) != null) {
                    l.add(i);
                }
            }
            return l;
        }

        List<Integer> beside(int n) {
            List<Integer> l = new ArrayList<>();
            int c = n / 5, y = n % 5;
            int[][] all = {{c, y - 1}, {c, y + 1}, {c - 1, y}, {c + 1, y}};
            for (int[] p : all) {
                if (at(p[0], p[1]) != null) {
                    l.add(5 * p[0] + p[1]);
                }
            }
            return l;
        }

        int gain(int n) {
            Cell me = cell(n);
            int c = n / 5, y = n % 5;
            int air = (at(c, y + 1) == null ? 1 : 0) + (at(c - 1, y) == null ? 1 : 0) + (at(c + 1, y) == null ? 1 : 0)
                    + (chimney[c] ? 2 : 0);
            int sum = 0;
            for (int b : beside(n)) {
                sum += cell(b).heat;
            }
            int mean = beside(n).isEmpty() ? 20 : sum / beside(n).size();
            int g;
            if (law == null) {
                g = 2 * me.damp - air - 4 * me.salt + (mean - me.heat) / 4;
            } else {
                Map<Character, Integer> names = new HashMap<>();
                names.put('d', me.damp);
                names.put('h', me.heat);
                names.put('a', air);
                names.put('s', me.salt);
                names.put('n', mean);
                names.put('l', y);
                g = text(law, names);
            }
            return g < -20 ? -20 : g > 20 ? 20 : g;
        }

        void day() {
            Map<Integer, Integer> gains = new HashMap<>();
            for (int n : there()) {
                gains.put(n, gain(n));
            }
            for (int n : there()) {
                Cell c = cell(n);
                c.heat += gains.get(n);
                if (c.heat < 0) {
                    c.heat = 0;
                }
                if (c.heat > 99) {
                    c.heat = 99;
                }
                if (c.heat >= 40) {
                    c.good -= c.heat / 20;
                    if (c.good < 0) {
                        c.good = 0;
                    }
                }
                if (c.heat >= 50 && c.damp > 0) {
                    c.damp--;
                }
            }
        }

        Stack behind(int n) {
            Stack s = copy();
            for (int i = 0; i < n; i++) {
                s.day();
            }
            return s;
        }

        int hottest() {
            int best = NOT;
            for (int n : there()) {
                if (best == NOT || cell(n).heat > cell(best).heat) {
                    best = n;
                }
            }
            return best;
        }

        int heat() {
            return hottest() == NOT ? NOT : cell(hottest()).heat;
        }

        int glow() {
            int k = 0;
            for (int n : there()) {
                k += cell(n).heat >= glows ? 1 : 0;
            }
            return k;
        }

        int good() {
            int k = 0;
            for (int n : there()) {
                k += cell(n).good;
            }
            return k;
        }

        int worth() {
            int k = 0;
            for (int n : there()) {
                k += cell(n).heat >= glows ? 0 : cell(n).good / 9;
            }
            return k;
        }

        void turn(int column) {
            for (Cell c : columns.get(column)) {
                c.heat = 20;
                c.damp = c.damp == 0 ? 0 : c.damp - 1;
            }
        }

        void wet(int column) {
            List<Cell> l = columns.get(column);
            if (!l.isEmpty()) {
                Cell top = l.get(l.size() - 1);
                top.damp = top.damp > 7 ? 9 : top.damp + 2;
            }
        }

        int cart(int column, int damp, int load) {
            if (columns.get(column).size() == 5) {
                return FULL;
            }
            Cell c = new Cell();
            c.damp = damp;
            c.load = load;
            columns.get(column).add(c);
            return 5 * column + columns.get(column).size() - 1;
        }
    }

    // ---- the law: a recogniser of spans for the grammar, and a reckoner that splits at the weakest sign

    private static final class Grammar {
        private final String t;
        private final Map<String, Boolean> memo = new HashMap<>();

        Grammar(String t) {
            this.t = t;
        }

        boolean isText() {
            for (String line : t.split(";", -1)) {
                String[] parts = line.split("\\?", -1);
                if (parts.length > 2) {
                    return false;
                }
                for (String part : parts) {
                    if (!new Grammar(part).is('E', 0, part.length(), 0)) {
                        return false;
                    }
                }
            }
            return true;
        }

        boolean is(char rule, int i, int j, int open) {
            if (i >= j || open > 6) {
                return false;
            }
            String key = rule + ":" + i + ":" + j + ":" + open;
            Boolean known = memo.get(key);
            if (known == null) {
                known = work(rule, i, j, open);
                memo.put(key, known);
            }
            return known;
        }

        private boolean work(char rule, int i, int j, int open) {
            switch (rule) {
                case 'E': return many('E', 'A', "|", i, j, open);
                case 'A': return many('A', 'B', "&", i, j, open);
                case 'B': return is('S', i, j, open) || joined('S', 'S', "<=>", i, j, open);
                case 'S': return many('S', 'P', "+-", i, j, open);
                case 'P': return many('P', 'O', "*/%", i, j, open);
                default: return unit(i, j, open);
            }
        }

        private boolean many(char self, char part, String signs, int i, int j, int open) {
            return is(part, i, j, open) || joined(self, part, signs, i, j, open);
        }

        private boolean joined(char left, char right, String signs, int i, int j, int open) {
            for (int k = i + 1; k < j - 1; k++) {
                if (signs.indexOf(t.charAt(k)) >= 0 && is(left, i, k, open) && is(right, k + 1, j, open)) {
                    return true;
                }
            }
            return false;
        }

        private boolean unit(int i, int j, int open) {
            String s = t.substring(i, j);
            if (s.matches("[0-9]{1,4}") || s.matches("[dhasnl]")) {
                return true;
            }
            char c = s.charAt(0);
            if (c == '!' || c == '-') {
                return is('O', i + 1, j, open + 1);
            }
            return c == '(' && s.endsWith(")") && is('E', i + 1, j - 1, open + 1);
        }
    }

    static boolean isText(String t) {
        return new Grammar(t).isText();
    }

    static boolean goesOn(String start) {
        for (String operand : new String[] {"", "d"}) {
            StringBuilder end = new StringBuilder(operand);
            for (int closers = 0; closers <= 6; closers++) {
                if (isText(start + end)) {
                    return true;
                }
                end.append(')');
            }
        }
        return false;
    }

    static int fault(String t) {
        for (int i = 0; i < t.length(); i++) {
            if (!goesOn(t.substring(0, i + 1))) {
                return i;
            }
        }
        return isText(t) ? -1 : t.length();
    }

    static int text(String t, Map<Character, Integer> names) {
        for (String line : t.split(";")) {
            String[] parts = line.split("\\?");
            if (parts.length == 1) {
                return value(line, names);
            }
            if (value(parts[0], names) != 0) {
                return value(parts[1], names);
            }
        }
        return 0;
    }

    private static boolean isBinary(String t, int i) {
        return i > 0 && (Character.isLetterOrDigit(t.charAt(i - 1)) || t.charAt(i - 1) == ')');
    }

    /** The last of the signs outside all brackets that joins two parts; -1. */
    private static int lastOf(String t, String signs) {
        int depth = 0;
        for (int i = t.length() - 1; i > 0; i--) {
            char c = t.charAt(i);
            depth += c == ')' ? 1 : c == '(' ? -1 : 0;
            if (depth == 0 && signs.indexOf(c) >= 0 && isBinary(t, i)) {
                return i;
            }
        }
        return -1;
    }

    private static int value(String t, Map<Character, Integer> names) {
        for (String signs : new String[] {"|", "&", "<=>", "+-", "*/%"}) {
            int i = lastOf(t, signs);
            if (i > 0) {
                int a = value(t.substring(0, i), names);
                int b = value(t.substring(i + 1), names);
                return joined(t.charAt(i), a, b);
            }
        }
        char c = t.charAt(0);
        if (c == '!') {
            return value(t.substring(1), names) == 0 ? 1 : 0;
        }
        if (c == '-') {
            return -value(t.substring(1), names);
        }
        if (c == '(') {
            return value(t.substring(1, t.length() - 1), names);
        }
        return Character.isDigit(c) ? Integer.parseInt(t) : names.get(c);
    }

    private static int joined(char sign, int a, int b) {
        switch (sign) {
            case '|': return a != 0 || b != 0 ? 1 : 0;
            case '&': return a != 0 && b != 0 ? 1 : 0;
            case '<': return a < b ? 1 : 0;
            case '=': return a == b ? 1 : 0;
            case '>': return a > b ? 1 : 0;
            case '+': return a + b;
            case '-': return a - b;
            case '*': return a * b;
            case '/': return b == 0 ? 0 : (int) ((long) a / b);
            default: return b == 0 ? 0 : (int) ((long) a % b);
        }
    }

    // ---- state

    String law;
    private final StringBuilder tape = new StringBuilder();
    private Stack now = new Stack();
    private int day;
    private int[] led = {0, 0, 0, 0, 0, NOT};
    private Stack imageStack;
    private int imageDay;
    private int[] imageLed;
    private final List<int[]> undos = new ArrayList<>();
    private final List<int[]> redos = new ArrayList<>();
    private final List<Body> bodies = new ArrayList<>();
    private static final List<Integer> trace = new ArrayList<>();
    private final Object[] shelves = new Object[6];

    static final class Row {
        int sort;
        long[] v;
    }

    private static boolean in(int v, int a, int b) {
        return a <= v && v <= b;
    }

    int cart(int column, int dl) {
        if (!in(column, 0, 5) || !in(dl, 0, 99)) {
            return BAD;
        }
        int cell = now.cart(column, dl / 10, dl % 10);
        led[0] += cell >= 0 ? 1 : 0;
        return cell;
    }

    int loads(int shelf, int i, int n) {
        if (!in(shelf, 0, 5) || !in(n, 1, 20)) {
            return BAD;
        }
        if (shelves[shelf] == null) {
            return 0;
        }
        if (!isBytes(shelf)) {
            return -12;
        }
        long[] v = ((Row) shelves[shelf]).v;
        int came = 0;
        for (long at = i; came < n && at >= 0 && at + 2 < v.length; at += 3) {
            long c = v[(int) at], d = v[(int) at + 1], l = v[(int) at + 2];
            if (c < 0 || c > 5 || d < 0 || d > 9 || l < 0 || l > 9 || cart((int) c, (int) (10 * d + l)) < 0) {
                break;
            }
            came++;
        }
        return came;
    }

    int get(int number, int what) {
        Cell c = now.cell(number);
        switch (what) {
            case 0: return c == null ? BAD : c.damp;
            case 1: return c == null ? BAD : c.heat;
            case 2: return c == null ? BAD : c.good;
            case 3: return c == null ? BAD : c.salt;
            case 4: return c == null ? BAD : c.load;
            case 5: return in(number, 0, 5) ? now.chimney[number] ? 1 : 0 : BAD;
            case 6: return number == 0 ? now.glows : BAD;
            case 7: return number == 0 ? day : BAD;
            case 8: return in(number, 0, 5) ? now.columns.get(number).size() : BAD;
            default: return BAD;
        }
    }

    void set(int number, int what, int v) {
        Cell c = now.cell(number);
        switch (what) {
            case 5: now.chimney[number] = v == 1; break;
            case 6: now.glows = v; break;
            case 7: day = v; break;
            default:
                if (c != null) {
                    if (what == 0) {
                        c.damp = v;
                    } else if (what == 1) {
                        c.heat = v;
                    } else if (what == 2) {
                        c.good = v;
                    } else if (what == 3) {
                        c.salt = v;
                    } else {
                        c.load = v;
                    }
                }
        }
    }

    int mend(int number, int what, int v) {
        int was = get(number, what);
        int[][] bounds = {{0, 9}, {0, 99}, {0, 99}, {0, 1}, {0, 9}, {0, 1}, {30, 99}, {0, 99}};
        if (!in(what, 0, 7) || was == BAD || !in(v, bounds[what][0], bounds[what][1])) {
            return BAD;
        }
        if (was != v) {
            set(number, what, v);
            undos.add(new int[] {number, what, was, v});
            redos.clear();
            if (undos.size() > 40) {
                undos.remove(0);
            }
        }
        return was;
    }

    int of(int number, int what) {
        return get(number, what);
    }

    int feed(int letter) {
        if (!in(letter, 0, 255)) {
            return BAD;
        }
        if (tape.length() == 120) {
            return FULL;
        }
        tape.append((char) letter);
        return tape.length();
    }

    int law() {
        String t = tape.toString();
        tape.setLength(0);
        int fault = fault(t);
        if (fault < 0) {
            law = t;
        }
        return fault < 0 ? 1 : -100 - fault;
    }

    int heats(int cell) {
        return now.cell(cell) == null ? VOID : now.gain(cell);
    }

    int later(int n, int cell, int what) {
        if (!in(n, 0, 40) || now.cell(cell) == null || !in(what, 0, 2)) {
            return BAD;
        }
        Cell c = now.behind(n).cell(cell);
        return what == 0 ? c.heat : what == 1 ? c.damp : c.good;
    }

    int stack(int n, int what) {
        if (!in(n, 0, 40) || !in(what, 0, 3)) {
            return BAD;
        }
        Stack s = now.behind(n);
        return what == 0 ? s.hottest() : what == 1 ? s.heat() : what == 2 ? s.glow() : s.good();
    }

    int first(int cell, int heat) {
        if (cell != -1 && now.cell(cell) == null || !in(heat, 0, 99)) {
            return BAD;
        }
        Stack s = now.copy();
        for (int n = 0; n <= 40; n++, s.day()) {
            for (int i : s.there()) {
                if ((cell == -1 || cell == i) && s.cell(i).heat >= heat) {
                    return n;
                }
            }
        }
        return NOT;
    }

    private long rodBits(int heat) {
        List<Integer> there = now.there();
        long hot = 0;
        long[] sees = new long[30];
        for (int n : there) {
            hot |= now.cell(n).heat >= heat ? 1L << n : 0;
            sees[n] = 1L << n;
            for (int b : now.beside(n)) {
                sees[n] |= 1L << b;
            }
        }
        for (int k = 0; k <= 4; k++) {
            long found = leastOf(there, sees, hot, k, 0, 0, 0);
            if (found >= 0) {
                return found;
            }
        }
        return NOT;
    }

    private long leastOf(List<Integer> there, long[] sees, long hot, int left, int from, long bits, long seen) {
        if (left == 0) {
            return (hot & ~seen) == 0 ? bits : NOT;
        }
        long best = NOT;
        for (int i = from; i < there.size(); i++) {
            int n = there.get(i);
            long got = leastOf(there, sees, hot, left - 1, i + 1, bits | 1L << n, seen | sees[n]);
            if (got >= 0 && (best < 0 || got < best)) {
                best = got;
            }
        }
        return best;
    }

    int rods(int heat) {
        if (!in(heat, 0, 99)) {
            return BAD;
        }
        long bits = rodBits(heat);
        return bits < 0 ? NOT : Long.bitCount(bits);
    }

    long rodsAt(int heat) {
        return in(heat, 0, 99) ? rodBits(heat) : Long.MIN_VALUE;
    }

    int turn(int k, int n, int what) {
        if (!in(k, 0, 3) || !in(n, 0, 20) || !in(what, 0, 1)) {
            return BAD;
        }
        int best = NOT, which = NOT;
        for (int bits = 63; bits >= 0; bits--) {
            if (Integer.bitCount(bits) == k) {
                Stack s = now.copy();
                for (int c = 0; c < 6; c++) {
                    if ((bits >> c) % 2 == 1) {
                        s.turn(c);
                    }
                }
                int heat = s.behind(n).heat();
                if (heat != NOT && (best == NOT || heat <= best)) {
                    best = heat;
                    which = bits;
                }
            }
        }
        return what == 0 ? best : which;
    }

    int chimney(int n, int what) {
        if (!in(n, 0, 20) || !in(what, 0, 1)) {
            return BAD;
        }
        int best = NOT, which = NOT;
        for (int c = 5; c >= 0; c--) {
            Stack s = now.copy();
            if (!s.chimney[c]) {
                s.chimney[c] = true;
                int heat = s.behind(n).heat();
                if (heat != NOT && (best == NOT || heat <= best)) {
                    best = heat;
                    which = c;
                }
            }
        }
        return what == 0 ? which : best;
    }

    int latest() {
        boolean ever = false;
        for (int n = 0; n <= 40; n++) {
            ever |= now.behind(n).glow() > 0;
        }
        int found = NOT;
        for (int t = 0; t <= 20 && ever; t++) {
            boolean dark = true;
            for (int n = 0; n <= t; n++) {
                dark &= now.behind(n).glow() == 0;
            }
            Stack s = now.behind(t);
            for (int c = 0; c < 6; c++) {
                s.turn(c);
            }
            for (int n = t; n <= 40; n++) {
                dark &= s.behind(n - t).glow() == 0;
            }
            if (dark) {
                found = t;
            }
        }
        return found;
    }

    private boolean isBytes(int shelf) {
        return shelves[shelf] instanceof Row && ((Row) shelves[shelf]).sort == 0;
    }

    private int bytesRefused(int shelf) {
        return shelves[shelf] == null ? -11 : isBytes(shelf) ? 0 : -12;
    }

    private static void orders(List<Integer> order, int m, List<List<Integer>> all) {
        if (order.size() == m) {
            all.add(new ArrayList<>(order));
        }
        for (int i = 0; i < m; i++) {
            if (!order.contains(i)) {
                order.add(i);
                orders(order, m, all);
                order.remove(order.size() - 1);
            }
        }
    }

    int lay(int shelf, int n, int k) {
        if (!in(shelf, 0, 5) || !in(n, 0, 8) || k < -1) {
            return BAD;
        }
        if (bytesRefused(shelf) != 0) {
            return bytesRefused(shelf);
        }
        long[] v = ((Row) shelves[shelf]).v;
        int m = 0;
        while (m < v.length && m < 6 && v[m] >= 0 && v[m] <= 9) {
            m++;
        }
        for (int c = 0; c < m; c++) {
            if (now.columns.get(c).size() == 5) {
                return NOT;
            }
        }
        List<List<Integer>> all = new ArrayList<>();
        orders(new ArrayList<>(), m, all);
        int best = NOT;
        List<Integer> which = null;
        for (List<Integer> order : all) {
            Stack s = now.copy();
            for (int c = 0; c < m; c++) {
                s.cart(c, (int) v[order.get(c)], 0);
            }
            int heat = s.behind(n).heat();
            if (heat != NOT && (best == NOT || heat < best)) {
                best = heat;
                which = order;
            }
        }
        return k == -1 ? best : best == NOT || k >= m ? NOT : which.get(k);
    }

    int worth() {
        return now.worth();
    }

    int sell(int n, int c, int what) {
        if (!in(n, 0, 40) || !in(c, 0, 99) || !in(what, 0, 1)) {
            return VOID;
        }
        int best = 0, which = -1;
        for (int d = 0; d <= n; d++) {
            int w = now.behind(d).worth() - c * d;
            if (which < 0 || w > best) {
                best = w;
                which = d;
            }
        }
        return what == 0 ? which : best;
    }

    int whose() {
        int[] gone = new int[10];
        for (int n : now.there()) {
            gone[now.cell(n).load] += 99 - now.cell(n).good;
        }
        int found = 0;
        for (int l = 1; l < 10; l++) {
            found = gone[l] > gone[found] ? l : found;
        }
        return gone[found] == 0 ? NOT : found;
    }

    private int wrong(Stack start, int shelf, int cell) {
        long[] v = ((Row) shelves[shelf]).v;
        Stack s = start.copy();
        for (int i = 0; i < v.length && i < 41; i++, s.day()) {
            if (v[i] != 100 && v[i] != s.cell(cell).heat) {
                return i;
            }
        }
        return NOT;
    }

    int judge(int shelf, int cell) {
        if (!in(shelf, 0, 5) || now.cell(cell) == null) {
            return BAD;
        }
        return bytesRefused(shelf) != 0 ? bytesRefused(shelf) : wrong(now, shelf, cell);
    }

    int book(int shelf, int cc, int what) {
        if (!in(shelf, 0, 5) || cc < 0 || now.cell(cc / 100) == null || now.cell(cc % 100) == null || !in(what, 0, 2)) {
            return BAD;
        }
        if (bytesRefused(shelf) != 0) {
            return bytesRefused(shelf);
        }
        int many = 0, least = NOT, bits = 0;
        for (int d = 9; d >= 0; d--) {
            Stack s = now.copy();
            s.cell(cc % 100).damp = d;
            if (wrong(s, shelf, cc / 100) == NOT) {
                many++;
                least = d;
            }
        }
        for (int b = 0; b < 2; b++) {
            Stack s = now.copy();
            s.cell(cc % 100).salt = b;
            bits += wrong(s, shelf, cc / 100) == NOT ? b + 1 : 0;
        }
        return what == 0 ? many : what == 1 ? least : bits;
    }

    private int opening;

    private int game(Stack s, int made, int n, int t) {
        if (made == n) {
            return s.behind(t).heat();
        }
        int best = NOT;
        for (int deed : new int[] {6, 0, 1, 2, 3, 4, 5}) {
            Stack next = s.copy();
            if (deed < 6 && made % 2 == 0) {
                next.turn(deed);
            } else if (deed < 6) {
                next.wet(deed);
            }
            int heat = game(next, made + 1, n, t);
            if (best == NOT || (made % 2 == 0 ? heat < best : heat > best)) {
                best = heat;
                if (made == 0) {
                    opening = deed;
                }
            }
        }
        return best;
    }

    int byTurns(int nt, int what) {
        if (nt < 0 || !in(nt / 10, 1, 3) || !in(what, 0, 1)) {
            return BAD;
        }
        if (now.there().isEmpty()) {
            return NOT;
        }
        int heat = game(now, 0, nt / 10, nt % 10);
        return what == 0 ? heat : opening;
    }

    int drawn(int seed, int nmw, int what) {
        if (nmw < 0 || !in(nmw / 10000, 1, 30) || !in(nmw / 100 % 100, 1, 30) || !in(nmw % 100, 0, 12)
                || !in(what, 0, 1)) {
            return BAD;
        }
        long z = seed;
        int glow = 0, good = 0;
        for (int i = 0; i < nmw / 10000; i++) {
            Stack s = now.copy();
            for (int d = 0; d < nmw / 100 % 100; d++) {
                z = (int) (z * 1103515245L + 12345L);
                long u = z & 0xFFFFFFFFL;
                if ((u >> 16) % 12 < nmw % 100) {
                    s.wet((int) ((u >> 8) % 6));
                }
                s.day();
            }
            glow += s.glow() > 0 ? 1 : 0;
            good += s.good();
        }
        return what == 0 ? glow : good;
    }

    int turned(int column) {
        if (!in(column, 0, 5)) {
            return BAD;
        }
        now.turn(column);
        led[1]++;
        return now.columns.get(column).size();
    }

    int salt(int column) {
        if (!in(column, 0, 5)) {
            return BAD;
        }
        for (Cell c : now.columns.get(column)) {
            c.salt = 1;
        }
        led[2]++;
        return now.columns.get(column).size();
    }

    int read(int cell) {
        Cell c = now.cell(cell);
        if (c == null) {
            return BAD;
        }
        led[3]++;
        led[5] = c.heat > led[5] ? c.heat : led[5];
        return c.heat;
    }

    int day() {
        now.day();
        day = day < 99 ? day + 1 : 99;
        led[4]++;
        return now.glow();
    }

    int led(int what) {
        return in(what, 0, 5) ? led[what] : BAD;
    }

    int image() {
        imageStack = now.copy();
        imageDay = day;
        imageLed = led.clone();
        return led[4];
    }

    int back() {
        if (imageStack == null) {
            return STATE;
        }
        Stack s = imageStack.copy();
        s.chimney = now.chimney;
        s.glows = now.glows;
        now = s;
        day = imageDay;
        led = imageLed.clone();
        return led[4];
    }

    int undo() {
        if (undos.isEmpty()) {
            return STATE;
        }
        int[] u = undos.remove(undos.size() - 1);
        redos.add(u);
        set(u[0], u[1], u[2]);
        return undos.size();
    }

    int redo() {
        if (redos.isEmpty()) {
            return STATE;
        }
        int[] u = redos.remove(redos.size() - 1);
        undos.add(u);
        set(u[0], u[1], u[3]);
        return redos.size();
    }

    // ---- bodies, as Java itself would have them

    private static int ran(int number) {
        trace.add(number);
        return 0;
    }

    interface Reads {
        int number();

        default int reads(int x) {
            ran(1);
            return x + number();
        }
    }

    interface Tells {
        int heats(int x);
        int opens(int x);

        default int tells(int x) {
            ran(2);
            return heats(x) - opens(1);
        }
    }

    interface Body extends Reads, Tells {
        int kind();
    }

    static class Rod implements Body {
        private final int n;

        Rod(int n) {
            this.n = n;
        }

        public int number() {
            return n;
        }

        public int kind() {
            return 0;
        }

        public int heats(int x) {
            ran(10);
            return reads(x) * 2;
        }

        public int opens(int x) {
            ran(11);
            return x ^ n;
        }
    }

    static class Hand extends Rod {
        Hand(int n) {
            super(n);
        }

        public int kind() {
            return 1;
        }

        public int reads(int x) {
            ran(20);
            return super.reads(x) + 3;
        }
    }

    static class Smoke extends Rod {
        Smoke(int n) {
            super(n);
        }

        public int kind() {
            return 2;
        }

        public int heats(int x) {
            ran(30);
            return -super.heats(x);
        }
    }

    static class Chimney extends Smoke {
        Chimney(int n) {
            super(n);
        }

        public int kind() {
            return 3;
        }

        public int opens(int x) {
            ran(40);
            return super.opens(x) * 3;
        }

        public int heats(int x) {
            ran(41);
            return super.heats(x + 1);
        }
    }

    static final class Barn extends Hand {
        Barn(int n) {
            super(n);
        }

        public int kind() {
            return 4;
        }

        public int tells(int x) {
            ran(50);
            return super.tells(x) ^ 5;
        }
    }

    static final class Fork extends Chimney {
        Fork(int n) {
            super(n);
        }

        public int kind() {
            return 5;
        }

        public int opens(int x) {
            ran(60);
            return super.opens(x) - reads(2);
        }

        public int tells(int x) {
            ran(61);
            return super.tells(x) + 1;
        }
    }

    static class Salt extends Rod {
        Salt(int n) {
            super(n);
        }

        public int kind() {
            return 6;
        }

        public int reads(int x) {
            ran(70);
            return super.reads(x) * 2;
        }
    }

    static final class Glow extends Salt {
        Glow(int n) {
            super(n);
        }

        public int kind() {
            return 7;
        }

        public int heats(int x) {
            ran(80);
            return super.heats(x) + opens(2);
        }

        public int reads(int x) {
            ran(81);
            return super.reads(x) - 1;
        }
    }

    int body(int kind) {
        if (!in(kind, 0, 7)) {
            return BAD;
        }
        int n = bodies.size();
        if (n == 50) {
            return FULL;
        }
        Body[] made = {new Rod(n), new Hand(n), new Smoke(n), new Chimney(n), new Barn(n), new Fork(n), new Salt(n),
            new Glow(n)};
        bodies.add(made[kind]);
        return n;
    }

    private List<Integer> latest = new ArrayList<>();

    int act(int body, int act, int x) {
        trace.clear();
        int answer = 0;
        if (in(body, 0, bodies.size() - 1) && in(act, 0, 3)) {
            Body b = bodies.get(body);
            answer = act == 0 ? b.reads(x) : act == 1 ? b.heats(x) : act == 2 ? b.opens(x) : b.tells(x);
        }
        latest = new ArrayList<>(trace);
        return answer;
    }

    int trace(int i) {
        return in(i, 0, Math.min(24, latest.size()) - 1) ? latest.get(i) : BAD;
    }

    int keep(int shelf, int body) {
        if (!in(shelf, 0, 5) || !in(body, -1, bodies.size() - 1)) {
            return BAD;
        }
        shelves[shelf] = body < 0 ? null : bodies.get(body);
        return 1;
    }

    int row(int shelf, int sort, int n) {
        if (!in(shelf, 0, 5) || !in(sort, 0, 4) || n > 60) {
            return BAD;
        }
        if (n < 0) {
            return -14;
        }
        Row r = new Row();
        r.sort = sort;
        r.v = new long[n];
        shelves[shelf] = r;
        return 1;
    }

    private int placeRefused(int shelf, int i) {
        if (shelves[shelf] == null) {
            return -11;
        }
        if (!(shelves[shelf] instanceof Row)) {
            return -12;
        }
        return in(i, 0, ((Row) shelves[shelf]).v.length - 1) ? 0 : -13;
    }

    int put(int shelf, int i, long v) {
        if (!in(shelf, 0, 5)) {
            return BAD;
        }
        if (placeRefused(shelf, i) != 0) {
            return placeRefused(shelf, i);
        }
        Row r = (Row) shelves[shelf];
        r.v[i] = r.sort == 4 ? v == 0 ? 0 : 1 : v << 64 - (8 << r.sort) >> 64 - (8 << r.sort);
        return 1;
    }

    long element(int shelf, int i) {
        if (!in(shelf, 0, 5)) {
            return Long.MIN_VALUE;
        }
        return placeRefused(shelf, i) != 0 ? Long.MIN_VALUE : ((Row) shelves[shelf]).v[i];
    }

    int shift(int shelf, int i, int other, int j, int n) {
        if (!in(shelf, 0, 5) || !in(other, 0, 5)) {
            return BAD;
        }
        if (shelves[shelf] == null || shelves[other] == null) {
            return -11;
        }
        if (!(shelves[shelf] instanceof Row) || !(shelves[other] instanceof Row)
                || ((Row) shelves[shelf]).sort != ((Row) shelves[other]).sort) {
            return -12;
        }
        long[] a = ((Row) shelves[shelf]).v, b = ((Row) shelves[other]).v;
        if (n < 0 || i < 0 || j < 0 || (long) i + n > a.length || (long) j + n > b.length) {
            return -13;
        }
        long[] before = a.clone();
        for (int k = 0; k < n; k++) {
            b[j + k] = before[i + k];
        }
        return n;
    }

    int taken(int shelf, int k) {
        if (!in(shelf, 0, 5) || !in(k, 0, 7)) {
            return BAD;
        }
        if (shelves[shelf] == null) {
            return -11;
        }
        Class<?>[] kinds = {Rod.class, Hand.class, Smoke.class, Chimney.class, Barn.class, Fork.class, Salt.class,
            Glow.class};
        return kinds[k].isInstance(shelves[shelf]) ? ((Body) shelves[shelf]).kind() : -12;
    }

    int count(int what) {
        switch (what) {
            case 0: return now.there().size();
            case 1: return now.glow();
            case 2: return tape.length();
            case 3: return undos.size();
            case 4: return bodies.size();
            case 5: return latest.size();
            default: return BAD;
        }
    }
}
