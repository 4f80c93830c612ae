import java.util.Random;

/** The class and the model answer the same calls, drawn by fixed seeds: every call of the face, wrong numbers too. */
public final class ModelTest {
    private static final Due due = new Due();
    private static final String[] CALLS = {
        "cart", "cart", "cart", "cart", "cart", "loads", "mend", "mend", "mend", "mend", "of", "of", "feed", "text",
        "heats", "later", "stack", "first", "rods", "rodsAt", "turn", "chimney", "latest", "lay", "worth", "sell",
        "whose", "judge", "book", "readBook", "byTurns", "drawn", "turned", "salt", "read", "day", "day", "led",
        "image", "back", "undo", "undo", "redo", "body", "act", "trace", "keep", "row", "put", "element", "shift",
        "taken", "count"};
    private static final String[] LAWS = {
        "d*2-a-s*4+(n-h)/4", "d", "d-a", "h/7-3", "(n-h)/2+d", "h>60?-9;d*2", "l-2", "h%9-4+s", "n>h?7;-3",
        "a*d-h/6", "!s&d>2?9;0-a", "-20", "20", "h<50&d|l=3?d+3;h=99?-40;1", "99-h", "d*d/3-a*2-s*5",
        "9999*9999*h%17", "d=5?-(h-20);d<5?4;l*3-a", "h*h*h*h*h*h/0+n%0+3"};

    private static Random random;
    private static HotStack x;
    private static Model m;

    /** Told a number, it goes through that many runs. */
    public static void main(String[] args) {
        int runs = args.length > 0 ? Integer.parseInt(args[0]) : 100;
        due.part("faults of texts");
        for (int seed = 0; seed < 2000; seed++) {
            random = new Random(seed);
            texts();
        }
        for (int seed = 0; seed < runs && !due.failed(); seed++) {
            run(seed);
        }
        due.finish("ModelTest");
    }

    private static int upTo(int n) {
        return random.nextInt(n + 1);
    }

    /** A number from a to b, or, now and then, one just or far beyond. */
    private static int about(int a, int b) {
        switch (random.nextInt(40)) {
            case 0: return a - 1;
            case 1: return b + 1;
            case 2: return random.nextInt(8) == 0 ? random.nextInt() : a;
            case 3: return b;
            default: return a + random.nextInt(b - a + 1);
        }
    }

    private static String drawnText(int depth) {
        switch (random.nextInt(depth > 3 ? 3 : 12)) {
            case 0: return "" + random.nextInt(30);
            case 1: case 2: return "" + "dhasnl".charAt(random.nextInt(6));
            case 3: return "(" + drawnText(depth + 1) + ")";
            case 4: return "!" + drawnText(depth + 1);
            case 5: return "-" + drawnText(depth + 1);
            default:
                return drawnText(depth + 1) + "|&<=>+-*/%".charAt(random.nextInt(10)) + drawnText(depth + 1);
        }
    }

    private static String drawnLines() {
        StringBuilder b = new StringBuilder(drawnText(1));
        for (int i = random.nextInt(3); i > 0; i--) {
            b.append("?;".charAt(random.nextInt(2))).append(drawnText(2));
        }
        return b.length() > 30 ? b.substring(0, 30) : b.toString();
    }

    private static void texts() {
        StringBuilder b = new StringBuilder(random.nextInt(3) > 0 ? drawnLines() : "");
        String all = "dhasnl0123456789|&<=>+-*/%!-(())((!!--?;;  x";
        for (int i = random.nextInt(4); i > 0; i--) {
            int at = random.nextInt(b.length() + 1);
            char letter = all.charAt(random.nextInt(all.length()));
            if (random.nextBoolean() || at == b.length()) {
                b.insert(at, letter);
            } else if (random.nextBoolean()) {
                b.setCharAt(at, letter);
            } else {
                b.deleteCharAt(at);
            }
        }
        x = Due.stack(null, 57);
        m = new Model();
        m.cart(0, 57);
        String text = b.toString();
        for (int i = 0; i < text.length(); i++) {
            x.feed(text.charAt(i));
            m.feed(text.charAt(i));
        }
        int want = m.law();
        due.due("law of " + text, x.law(), want);
        if (want == 1) {
            for (int i = 0; i < 3; i++) {
                due.due("heats by " + text, x.heats(0), m.heats(0));
                m.day();
                x.day();
            }
        }
    }

    private static void run(int seed) {
        random = new Random(seed);
        due.part("run " + seed);
        x = new HotStack();
        m = new Model();
        int columns = 1 + random.nextInt(6);
        for (int i = random.nextInt(26); i > 0; i--) {
            int column = random.nextInt(columns), dl = random.nextInt(100);
            due.due("cart(" + column + ", " + dl + ")", x.cart(column, dl), m.cart(column, dl));
        }
        for (int i = random.nextInt(12); i > 0; i--) {
            call("body", i);
        }
        if (random.nextInt(3) > 0) {
            tell(LAWS[random.nextInt(LAWS.length)]);
        }
        for (int i = 0; i < (seed % 10 == 0 ? 350 : 80) && !due.failed(); i++) {
            call(CALLS[random.nextInt(CALLS.length)], i);
        }
        for (int number = 0; number < 30; number++) {
            for (int what = 0; what <= 8; what++) {
                due.due("of(" + number + ", " + what + ") at the end", x.of(number, what), m.of(number, what));
            }
        }
    }

    private static void tell(String text) {
        for (int i = 0; i < text.length(); i++) {
            x.feed(text.charAt(i));
            m.feed(text.charAt(i));
        }
        due.due("law " + text, x.law(), m.law());
    }

    private static void is(int i, String call, int[] a, long got, long want) {
        if (got != want) {
            StringBuilder b = new StringBuilder(i + ": " + call + "(");
            for (int v : a) {
                b.append(v).append(' ');
            }
            due.due(b + ")", got, want);
        } else {
            due.due(call, got, want);
        }
    }

    private static int shelf() {
        return about(0, random.nextBoolean() ? 1 : 5);
    }

    private static void call(String c, int i) {
        int[] a = new int[5];
        switch (c) {
            case "cart": a[0] = about(0, 5); a[1] = about(0, 99); is(i, c, a, x.cart(a[0], a[1]), m.cart(a[0], a[1])); break;
            case "loads":
                a[0] = shelf(); a[1] = about(0, 8); a[2] = about(1, 20);
                is(i, c, a, x.loads(a[0], a[1], a[2]), m.loads(a[0], a[1], a[2])); break;
            case "mend":
                a[1] = about(0, 7);
                a[0] = a[1] < 5 ? about(0, 29) : a[1] == 5 ? about(0, 5) : about(0, 0);
                a[2] = a[1] == 3 || a[1] == 5 ? about(0, 1) : a[1] == 0 || a[1] == 4 ? about(0, 9) : about(30, 99);
                is(i, c, a, x.mend(a[0], a[1], a[2]), m.mend(a[0], a[1], a[2])); break;
            case "of":
                a[1] = about(0, 8);
                a[0] = a[1] < 5 ? about(0, 29) : a[1] == 6 || a[1] == 7 ? about(0, 0) : about(0, 5);
                is(i, c, a, x.of(a[0], a[1]), m.of(a[0], a[1])); break;
            case "feed": a[0] = about(0, 255); is(i, c, a, x.feed(a[0]), m.feed(a[0])); break;
            case "text":
                if (random.nextInt(4) == 0) {
                    tell(random.nextBoolean() ? drawnLines() : LAWS[random.nextInt(LAWS.length)]);
                }
                break;
            case "lay": case "judge": case "book": case "readBook": case "sell": case "byTurns": case "drawn": books(c, i); break;
            case "body": case "act": case "trace": case "keep": case "row": case "put": case "element": case "shift":
            case "taken": case "count": acts(c, i); break;
            case "heats": case "later": case "stack": case "first": case "rods": case "rodsAt": case "turn":
            case "chimney": case "latest": days(c, i); break;
            default: deeds(c, i); break;
        }
    }

    private static void days(String c, int i) {
        int[] a = new int[5];
        switch (c) {
            case "heats": a[0] = about(0, 29); is(i, c, a, x.heats(a[0]), m.heats(a[0])); break;
            case "later":
                a[0] = about(0, 40); a[1] = about(0, 29); a[2] = about(0, 2);
                is(i, c, a, x.later(a[0], a[1], a[2]), m.later(a[0], a[1], a[2])); break;
            case "stack": a[0] = about(0, 40); a[1] = about(0, 3); is(i, c, a, x.stack(a[0], a[1]), m.stack(a[0], a[1])); break;
            case "first": a[0] = about(-1, 29); a[1] = about(0, 99); is(i, c, a, x.first(a[0], a[1]), m.first(a[0], a[1])); break;
            case "rods": a[0] = about(0, 99); is(i, c, a, x.rods(a[0]), m.rods(a[0])); break;
            case "rodsAt": a[0] = about(0, 99); is(i, c, a, x.rodsAt(a[0]), m.rodsAt(a[0])); break;
            case "turn":
                a[0] = about(0, 3); a[1] = about(0, 20); a[2] = about(0, 1);
                is(i, c, a, x.turn(a[0], a[1], a[2]), m.turn(a[0], a[1], a[2])); break;
            case "chimney": a[0] = about(0, 20); a[1] = about(0, 1); is(i, c, a, x.chimney(a[0], a[1]), m.chimney(a[0], a[1])); break;
            default: is(i, c, a, x.latest(), m.latest()); break;
        }
    }

    private static void books(String c, int i) {
        int[] a = new int[5];
        switch (c) {
            case "lay":
                a[0] = shelf(); a[1] = about(0, 8); a[2] = about(-1, 7);
                loadsFor(a[0]);
                is(i, c, a, x.lay(a[0], a[1], a[2]), m.lay(a[0], a[1], a[2])); break;
            case "sell":
                a[0] = about(0, 40); a[1] = about(0, 99) / (1 + upTo(20)); a[2] = about(0, 1);
                is(i, c, a, x.sell(a[0], a[1], a[2]), m.sell(a[0], a[1], a[2])); break;
            case "judge": a[0] = shelf(); a[1] = about(0, 29); is(i, c, a, x.judge(a[0], a[1]), m.judge(a[0], a[1])); break;
            case "readBook": readBook(i); break;
            case "book":
                a[0] = shelf(); a[1] = 100 * about(0, 29) + about(0, 29); a[2] = about(0, 2);
                is(i, c, a, x.book(a[0], a[1], a[2]), m.book(a[0], a[1], a[2])); break;
            case "byTurns": a[0] = about(10, 39); a[1] = about(0, 1); is(i, c, a, x.byTurns(a[0], a[1]), m.byTurns(a[0], a[1])); break;
            default:
                a[0] = random.nextInt(); a[1] = 10000 * about(1, 30) + 100 * about(1, 30) + about(0, 12); a[2] = about(0, 1);
                is(i, c, a, x.drawn(a[0], a[1], a[2]), m.drawn(a[0], a[1], a[2])); break;
        }
    }

    /** Mostly a row of DAMPS ahead of lay(), sometimes one that ends early. */
    private static void loadsFor(int shelf) {
        int n = random.nextInt(9), most = random.nextInt(12);
        if (random.nextInt(4) > 0) {
            is(n, "row", new int[] {shelf}, x.row(shelf, 0, n), m.row(shelf, 0, n));
            for (int k = 0; k < n; k++) {
                int damp = random.nextInt(20) == 0 ? -1 : upTo(most);
                is(k, "put", new int[] {shelf, damp}, x.put(shelf, k, damp), m.put(shelf, k, damp));
            }
        }
    }

    /** A book as a rod would have it, some days not read, one of them perhaps wrong; and what it fits. */
    private static void readBook(int i) {
        int n = random.nextInt(50), rod = random.nextInt(30), told = random.nextInt(30), wrong = random.nextInt(100);
        m.row(0, 0, n);
        x.row(0, 0, n);
        for (int day = 0; day < n; day++) {
            int v = day > 40 || random.nextInt(3) == 0 ? 100 : m.later(day, rod, 0);
            v = day == wrong ? random.nextInt(256) : v;
            m.put(0, day, v);
            x.put(0, day, v);
        }
        int[] a = {rod, told, n, wrong};
        is(i, "judge as read", a, x.judge(0, rod), m.judge(0, rod));
        for (int what = 0; what < 3; what++) {
            is(i, "book as read", a, x.book(0, 100 * rod + told, what), m.book(0, 100 * rod + told, what));
        }
    }

    private static void deeds(String c, int i) {
        int[] a = new int[5];
        switch (c) {
            case "worth": is(i, c, a, x.worth(), m.worth()); break;
            case "whose": is(i, c, a, x.whose(), m.whose()); break;
            case "turned": a[0] = about(0, 5); is(i, c, a, x.turned(a[0]), m.turned(a[0])); break;
            case "salt": a[0] = about(0, 5); is(i, c, a, x.salt(a[0]), m.salt(a[0])); break;
            case "read": a[0] = about(0, 29); is(i, c, a, x.read(a[0]), m.read(a[0])); break;
            case "day": is(i, c, a, x.day(), m.day()); break;
            case "led": a[0] = about(0, 5); is(i, c, a, x.led(a[0]), m.led(a[0])); break;
            case "image": is(i, c, a, x.image(), m.image()); break;
            case "back": is(i, c, a, x.back(), m.back()); break;
            case "undo": is(i, c, a, x.undo(), m.undo()); break;
            default: is(i, c, a, x.redo(), m.redo()); break;
        }
    }

    private static void acts(String c, int i) {
        int[] a = new int[5];
        long v = random.nextInt(3) > 0 ? upTo(12) : random.nextLong() >> random.nextInt(64);
        switch (c) {
            case "body": a[0] = about(0, 7); is(i, c, a, x.body(a[0]), m.body(a[0])); break;
            case "act":
                a[0] = about(0, 9); a[1] = about(0, 3); a[2] = random.nextBoolean() ? upTo(9) : random.nextInt();
                is(i, c, a, x.act(a[0], a[1], a[2]), m.act(a[0], a[1], a[2]));
                for (int k = -1; k < 26; k++) {
                    is(i, "trace behind it", new int[] {k}, x.trace(k), m.trace(k));
                }
                is(i, "count behind it", a, x.count(5), m.count(5)); break;
            case "trace": a[0] = about(0, 8); is(i, c, a, x.trace(a[0]), m.trace(a[0])); break;
            case "keep": a[0] = shelf(); a[1] = about(-1, 4); is(i, c, a, x.keep(a[0], a[1]), m.keep(a[0], a[1])); break;
            case "row":
                a[0] = shelf(); a[1] = random.nextInt(3) > 0 ? 0 : about(0, 4); a[2] = about(0, random.nextInt(4) > 0 ? 8 : 60);
                is(i, c, a, x.row(a[0], a[1], a[2]), m.row(a[0], a[1], a[2]));
                for (int k = 0; k < a[2]; k++) {
                    x.put(a[0], k, k % 7);
                    m.put(a[0], k, k % 7);
                }
                break;
            case "put": a[0] = shelf(); a[1] = about(0, 8); is(i, c + v, a, x.put(a[0], a[1], v), m.put(a[0], a[1], v)); break;
            case "element": a[0] = shelf(); a[1] = about(0, 8); is(i, c, a, x.element(a[0], a[1]), m.element(a[0], a[1])); break;
            case "shift":
                a[0] = shelf(); a[1] = about(0, 6); a[2] = shelf(); a[3] = about(0, 6); a[4] = about(0, 6);
                is(i, c, a, x.shift(a[0], a[1], a[2], a[3], a[4]), m.shift(a[0], a[1], a[2], a[3], a[4])); break;
            case "taken": a[0] = shelf(); a[1] = about(0, 7); is(i, c, a, x.taken(a[0], a[1]), m.taken(a[0], a[1])); break;
            default: a[0] = about(0, 5); is(i, c, a, x.count(a[0]), m.count(a[0])); break;
        }
    }
}
