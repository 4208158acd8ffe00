/** Promises 37 to 42. */
public final class AskedTest {
    private static final String TEXT = "town 1;town 1;town 1;man 0;man 0;man 1;man 2;man 1;road 0 1;"
        + "law 0 0 100 1 0;law 1 2 100 1 0;law 2 0 100 1 0;";

    public static void main(String[] args) {
        kinds();
        kindOrder();
        takenAs();
        bodies();
        trace();
        count();
        Check.end();
    }

    private static void kinds() {
        SeizedGoods g = Check.landed(TEXT);
        Check.due("claim", g.kind(0), Check.BAD);
        Check.due("claim", g.kind(-1), Check.BAD);
        // Had by one of town 1, whose law asks twice.
        g.debt(0, 2, 10);
        Check.due("own", g.kind(0), 1);
        g.ask(0);
        Check.due("asked once only", g.kind(0), 1);
        g.letter(0, 5, 0);
        Check.due("a letter alone does not make it", g.kind(0), 1);
        g.ask(0);
        Check.due("lettered", g.kind(0), 3);
        g.later(1);
        Check.due("it is over: town", g.kind(0), 2);
        g.ask(0);
        Check.due("asked more: town", g.kind(0), 2);
        // Had by one of town 2, whose law asks for nothing.
        g.debt(0, 3, 10);
        Check.due("town at once", g.kind(1), 2);
        g.letter(1, 5, 0);
        Check.due("lettered at once", g.kind(1), 3);
    }

    private static void kindOrder() {
        SeizedGoods g = Check.landed(TEXT);
        g.debt(0, 2, 10);
        g.goes(2, 0);
        Check.due("bred", g.seize(0, 1, 4), 1);
        Check.due("back, though town fits", g.kind(1), 4);
        g.letter(1, 5, 9);
        Check.due("back, though lettered fits", g.kind(1), 4);
        g.pact(0, 1, 1);
        Check.due("safe", g.kind(0), 5);
        Check.due("within one town there is no pact", g.kind(1), 4);
        g.pay(0, 6);
        Check.due("paid, though safe", g.kind(0), 6);
        g.pact(0, 1, 0);
        Check.due("paid", g.kind(0), 6);
        g.pay(1, 4);
        Check.due("paid, though back", g.kind(1), 6);
    }

    private static void takenAs() {
        // By kinds 0 to 6: what each may be taken as.
        int[][] is = {{}, {0, 1}, {0, 2}, {0, 2, 3}, {0, 1, 4}, {0, 5}, {0, 5, 6}};
        SeizedGoods g = eachKind();
        Check.due("claim", g.as(-1, 0), Check.BAD);
        Check.due("claim", g.as(6, 0), Check.BAD);
        Check.due("kind", g.as(0, -1), Check.BAD);
        Check.due("kind", g.as(0, 7), Check.BAD);
        for (int claim = 0; claim < 6; claim++) {
            for (int kind = 0; kind < 7; kind++) {
                boolean fits = false;
                for (int one : is[claim + 1]) {
                    fits |= one == kind;
                }
                Check.due("claim " + claim + " as " + kind, g.as(claim, kind), fits ? claim : Check.KIND);
                Check.due("status", g.status(), fits ? 0 : 3);
            }
        }
    }

    /** Claims 0 to 5 are told as kinds 1 to 6. */
    private static SeizedGoods eachKind() {
        SeizedGoods g = Check.landed(TEXT);
        g.debt(1, 2, 11);
        g.debt(0, 3, 20);
        g.debt(3, 0, 30);
        g.letter(2, 7, 9);
        g.ask(2);
        g.ask(2);
        g.goes(2, 0);
        Check.due("bred", g.seize(0, 0, 4), 3);
        g.debt(2, 3, 50);
        g.pact(1, 2, 1);
        g.debt(3, 1, 60);
        g.pay(5, 60);
        for (int claim = 0; claim < 6; claim++) {
            Check.due("kind of " + claim, g.kind(claim), claim + 1);
        }
        return g;
    }

    private static void bodies() {
        SeizedGoods g = eachKind();
        Check.due("claim", g.asks(-1, 0), Check.BAD);
        Check.due("claim", g.asks(6, 0), Check.BAD);
        Check.due("what", g.asks(0, -1), Check.BAD);
        Check.due("what", g.asks(0, 2), Check.BAD);
        // Own, claim 0: left 7, owed by 1.
        asked(g, 0, 0, 7 + 100, 11, 10, 21, 20);
        asked(g, 0, 1, 100, 21, 20);
        // Town, claim 1: left 20, never asked; then once.
        asked(g, 1, 0, 20, 13, 10);
        g.ask(1);
        asked(g, 1, 0, 40, 13, 10);
        asked(g, 1, 1, 1001, 22, 20);
        // Lettered, claim 2: left 30, asked twice, 7 left of the letter.
        asked(g, 2, 0, 97, 14, 13, 10);
        asked(g, 2, 1, 1002 + 97, 23, 22, 20, 14, 13, 10);
        // Back, claim 3: 4 on man 1.
        g.pay(3, 1);
        asked(g, 3, 0, 3 + 103 - 4, 12, 11, 10, 21, 20);
        asked(g, 3, 1, 103, 21, 20);
        // Safe, claim 4.
        asked(g, 4, 0, -50, 15, 10);
        asked(g, 4, 1, 4, 20);
        // Paid, claim 5: its sum was 60.
        asked(g, 5, 0, 0, 15, 10);
        asked(g, 5, 1, 5 - 60, 24, 20);
    }

    private static void asked(SeizedGoods g, int claim, int what, int want, int... trace) {
        Check.due("asks " + claim + " " + what, g.asks(claim, what), want);
        Check.dueAll("trace of " + claim + " " + what, Check.trace(g), trace);
    }

    private static void trace() {
        SeizedGoods g = eachKind();
        Check.due("none yet", g.trace(0), Check.NONE);
        g.asks(2, 1);
        Check.due("i -1", g.trace(-1), Check.NONE);
        Check.due("i 5", g.trace(5), 10);
        Check.due("i 6", g.trace(6), Check.NONE);
        Check.due("i 16", g.trace(16), Check.NONE);
        Check.due("far", g.trace(Integer.MAX_VALUE), Check.NONE);
        Check.due("far", g.trace(Integer.MIN_VALUE), Check.NONE);
        g.kind(0);
        g.as(0, 1);
        Check.due("other calls leave it", g.trace(0), 23);
        g.asks(2, 2);
        g.asks(9, 0);
        Check.due("what is refused changes nothing", g.trace(0), 23);
        g.asks(4, 1);
        Check.dueAll("empty ahead of the next", Check.trace(g), 20);
    }

    private static void count() {
        SeizedGoods g = eachKind();
        Check.due("what -1", g.count(-1), Check.BAD);
        Check.due("what 11", g.count(11), Check.BAD);
        g.sheet(4, 0, 0);
        g.later(3);
        g.feed(0, 2);
        int[] want = {1, 3, 5, 1, 0, 1, 6, 1, 4, 3, 2};
        for (int what = 0; what <= 10; what++) {
            Check.due("count " + what, g.count(what), want[what]);
        }
    }
}
