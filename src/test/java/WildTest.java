import java.lang.reflect.Method;
import java.util.Random;

/** Any call with any numbers in any state answers: nothing is thrown, and a refusal changes nothing it should not. */
public final class WildTest {
    private static final Due due = new Due();
    private static final int[] EDGES = {0, 1, -1, 2, 3, 4, 5, 6, 7, 8, 9, 10, 29, 30, 31, 39, 40, 41, 59, 60, 61, 99,
        100, 101, 119, 120, 255, 256, 10101, 303012, Integer.MAX_VALUE, Integer.MIN_VALUE, Integer.MAX_VALUE - 1,
        Integer.MIN_VALUE + 1, 1 << 30, -100, -101, 715827883};

    public static void main(String[] args) throws Exception {
        due.part("wild calls");
        Method[] all = HotStack.class.getDeclaredMethods();
        java.util.Arrays.sort(all, (a, b) -> a.getName().compareTo(b.getName()));
        for (int seed = 0; seed < 150; seed++) {
            Random random = new Random(seed);
            HotStack x = made(random);
            for (int i = 0; i < 400; i++) {
                Method call = all[random.nextInt(all.length)];
                if ((call.getModifiers() & 1) != 0) {
                    ask(x, call, random);
                }
            }
        }
        edges(all);
        sameAnswers();
        due.finish("WildTest");
    }

    private static HotStack made(Random random) {
        HotStack x = random.nextBoolean() ? Due.stack(null) : Due.stack("h*h*h*h/(d-d)+9999*9999*9999%n-!a", 99);
        for (int i = random.nextInt(40); i > 0; i--) {
            x.cart(random.nextInt(6), random.nextInt(100));
        }
        for (int i = random.nextInt(60); i > 0; i--) {
            x.body(random.nextInt(8));
        }
        for (int i = 0; i < 6; i++) {
            x.row(i, random.nextInt(3) == 0 ? random.nextInt(5) : 0, random.nextInt(61));
        }
        return x;
    }

    private static int number(Random random) {
        int kind = random.nextInt(4);
        return kind == 0 ? random.nextInt() : kind == 1 ? EDGES[random.nextInt(EDGES.length)] : random.nextInt(12);
    }

    private static void ask(HotStack x, Method call, Random random) {
        Object[] told = new Object[call.getParameterCount()];
        StringBuilder text = new StringBuilder(call.getName());
        for (int i = 0; i < told.length; i++) {
            int n = number(random);
            told[i] = call.getParameterTypes()[i] == long.class ? (Object) (n * 0x100000001L) : (Object) n;
            text.append(' ').append(told[i]);
        }
        try {
            call.invoke(x, told);
            due.due(text.toString(), 0, 0);
        } catch (Throwable t) {
            due.due(text + " threw " + t.getCause(), 1, 0);
        }
    }

    /** Every pair of edges in the first two numbers of each call. */
    private static void edges(Method[] all) throws Exception {
        for (Method call : all) {
            if ((call.getModifiers() & 1) == 0 || call.getParameterCount() < 2) {
                continue;
            }
            HotStack x = made(new Random(7));
            for (int one : EDGES) {
                for (int two : EDGES) {
                    Object[] told = new Object[call.getParameterCount()];
                    for (int i = 0; i < told.length; i++) {
                        int n = i == 0 ? one : i == 1 ? two : i == 2 ? one : 1;
                        told[i] = call.getParameterTypes()[i] == long.class ? (Object) (long) n : (Object) n;
                    }
                    try {
                        call.invoke(x, told);
                        due.due(call.getName(), 0, 0);
                    } catch (Throwable t) {
                        due.due(call.getName() + " " + one + " " + two + " threw " + t.getCause(), 1, 0);
                    }
                }
            }
        }
    }

    /** The same calls always give the same answers, whatever was asked in thought between them. */
    private static void sameAnswers() {
        HotStack x = Due.stack("d-a+(n-h)/4", 90, 190, 192, 230, 355);
        HotStack y = Due.stack("d-a+(n-h)/4", 90, 190, 192, 230, 355);
        Due.bytes(x, 0, 3, 9, 1);
        for (int i = 0; i < 20; i++) {
            x.lay(0, 8, 1);
            x.byTurns(39, 0);
            x.drawn(i, 202012, 1);
            x.turn(3, 20, 1);
            x.sell(40, 1, 0);
            x.book(0, 5, 2);
            x.latest();
            x.rods(30);
            due.due("day", x.day(), y.day());
            due.due("GOOD", x.stack(0, 3), y.stack(0, 3));
            due.due("HEAT", x.stack(3, 1), y.stack(3, 1));
        }
    }
}
