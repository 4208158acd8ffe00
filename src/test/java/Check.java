import java.nio.charset.StandardCharsets;

/** What the tests share: answers held against those that are due, and texts fed to an object. */
final class Check {
    static final int NONE = -1000000, BAD = -1000001, STATE = -1000002, FULL = -1000003;
    static final int NULL = -1000011, PLACE = -1000012, KIND = -1000013, SIZE = -1000014, STORE = -1000015;
    private static final int MOST_SHOWN = 40;
    private static int wrong = 0;

    private Check() { }

    static void due(String call, long got, long want) {
        if (got != want) {
            wrong++;
            if (wrong <= MOST_SHOWN) {
                System.out.println(call + " answered " + got + ", due is " + want);
            }
        }
    }

    static void dueAll(String call, int[] got, int... want) {
        due(call + ": how many", got.length, want.length);
        for (int k = 0; k < Math.min(got.length, want.length); k++) {
            due(call + " [" + k + "]", got[k], want[k]);
        }
    }

    static void dueTrue(String what, boolean is) {
        due(what, is ? 1 : 0, 1);
    }

    static void end() {
        System.out.println(wrong == 0 ? "all answers are as due" : wrong + " answers are not as due");
        if (wrong != 0) {
            System.exit(1);
        }
    }

    static void feed(SeizedGoods goods, String text) {
        byte[] bytes = text.getBytes(StandardCharsets.ISO_8859_1);
        for (int from = 0; from < bytes.length; from += 8) {
            int n = Math.min(8, bytes.length - from);
            long w = 0;
            for (int k = 0; k < n; k++) {
                w = w << 8 | bytes[from + k] & 255;
            }
            goods.feed(w, n);
        }
    }

    static int read(SeizedGoods goods, String text) {
        feed(goods, text);
        return goods.land();
    }

    static SeizedGoods landed(String text) {
        SeizedGoods goods = new SeizedGoods();
        due("land of " + text + " is read", read(goods, text) > 0 ? 1 : 0, 1);
        return goods;
    }

    static int[] trace(SeizedGoods goods) {
        int n = 0;
        while (n < 100 && goods.trace(n) != NONE) {
            n++;
        }
        int[] trace = new int[n];
        for (int k = 0; k < n; k++) {
            trace[k] = goods.trace(k);
        }
        return trace;
    }
}
