/** What the project's tests share: counting answers that are not as due, and making stacks in few words. */
final class Due {
    private int asked;
    private int wrong;
    private String promise = "";

    void promise(int number) {
        promise = "promise " + number;
    }

    void part(String name) {
        promise = name;
    }

    void due(String call, long got, long want) {
        asked++;
        if (got != want) {
            wrong++;
            if (wrong <= 50) {
                System.out.println(promise + ": " + call + " answered " + got + ", due is " + want);
            }
        }
    }

    void holds(String what, boolean is) {
        due(what, is ? 1 : 0, 1);
    }

    boolean failed() {
        return wrong > 0;
    }

    void finish(String name) {
        System.out.println(name + ": " + asked + " answers, " + wrong + " not as due");
        if (wrong > 0 || asked == 0) {
            System.exit(1);
        }
    }

    /** A stack whose law is the text; each number of loads is column * 100 + dl. */
    static HotStack stack(String law, int... loads) {
        HotStack x = new HotStack();
        tell(x, law);
        for (int load : loads) {
            x.cart(load / 100, load % 100);
        }
        return x;
    }

    static int tell(HotStack x, String text) {
        if (text == null) {
            return 0;
        }
        for (int i = 0; i < text.length(); i++) {
            x.feed(text.charAt(i));
        }
        return x.law();
    }

    static void fill(HotStack x, int shelf, int sort, long... values) {
        x.row(shelf, sort, values.length);
        for (int i = 0; i < values.length; i++) {
            x.put(shelf, i, values[i]);
        }
    }

    static void bytes(HotStack x, int shelf, long... values) {
        fill(x, shelf, 0, values);
    }
}
