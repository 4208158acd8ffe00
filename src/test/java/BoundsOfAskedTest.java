/** Terms 2 (KINDS), 4 (ASKS, THE TRACE) and promises 37 to 42 at their bounds. */
public final class BoundsOfAskedTest {
    private static final int CLAIM = 0, OWN = 1, TOWN = 2, LETTERED = 3, BACK = 4, SAFE = 5, PAID = 6;
    /** By kinds: the one it is, too; -1: none. */
    private static final int[] IS_TOO = {-1, CLAIM, CLAIM, TOWN, OWN, CLAIM, SAFE};

    public static void main(String[] args) {
        kindByHowOftenAsked();
        kindByTheLawOfWhoHasIt();
        kindByTheLetter();
        kindByPact();
        kindByPaid();
        kindToldAsTheFirstThatFits();
        asOfEachKind();
        asLeavesAll();
        sizeOfEachKind();
        markOfEachKind();
        asksOfLeastAndGreatest();
        asksOfTheLastClaim();
        traceAtFirst();
        traceOfEachAsk();
        traceIsEmptyAheadOfAnAsk();
        traceLeftByOtherCalls();
        countAtFirst();
        countOfAll();
        countOfTheTape();
        latestStaysBehindRestore();
        Check.end();
    }

    /** Man 0 of town 0 owes man 1 of town 1, man 2 is of town 0; all are at town 0. */
    private static SeizedGoods one(String laws, int sum) {
        SeizedGoods g = Check.landed("town 1;town 1;town 1;man 0;man 1;man 0;road 0 1;" + laws);
        g.goes(1, 0);
        g.debt(0, 1, sum);
        return g;
    }

    // 2 TOWN: it was ASKED as often as the LAW .. wants
    private static void kindByHowOftenAsked() {
        for (int wants = 0; wants <= 3; wants++) {
            SeizedGoods g = one("law 1 " + wants + " 100 1 0;", 9);
            for (int asked = 0; asked <= 5; asked++) {
                Check.due("asked " + asked + " of " + wants, g.kind(0), asked < wants ? OWN : TOWN);
                g.ask(0);
            }
        }
    }

    // .. of the TOWN .. that who has it is OF
    private static void kindByTheLawOfWhoHasIt() {
        Check.due("law of who owes", one("law 0 0 100 1 0;law 2 0 100 1 0;", 9).kind(0), OWN);
        Check.due("law of who has it", one("law 1 0 100 1 0;", 9).kind(0), TOWN);
        SeizedGoods g = one("law 0 0 100 1 0;law 1 1 100 1 0;", 9);
        Check.due("at another town", g.kind(0), OWN);
        g.ask(0);
        Check.due("asked", g.kind(0), TOWN);
    }

    // 3 LETTERED: it has a LETTER that is not over, with something left
    private static void kindByTheLetter() {
        SeizedGoods g = one("law 0 0 100 0 1;law 1 0 100 1 0;", 9);
        Check.due("none", g.kind(0), TOWN);
        g.letter(0, 1, 0);
        Check.due("its last day is today", g.kind(0), LETTERED);
        g.later(1);
        Check.due("it is over", g.kind(0), TOWN);
        g.letter(0, 2, 1);
        Check.due("its last day is tomorrow", g.kind(0), LETTERED);
        g.seize(0, 0, 1);
        Check.due("1 is left of it", g.kind(0), LETTERED);
        g.seize(0, 0, 1);
        Check.due("nothing is left of it", g.kind(0), TOWN);
        SeizedGoods asked = one("law 1 1 100 1 0;", 9);
        asked.letter(0, 5, 5);
        Check.due("a letter, but not asked", asked.kind(0), OWN);
        asked.ask(0);
        Check.due("a letter, and asked", asked.kind(0), LETTERED);
    }

    // 5 SAFE: the TOWNS of both have a PACT
    private static void kindByPact() {
        SeizedGoods g = one("", 9);
        g.pact(0, 2, 1);
        g.pact(1, 2, 1);
        Check.due("pacts with a third", g.kind(0), OWN);
        g.pact(0, 1, 1);
        Check.due("of both", g.kind(0), SAFE);
        g.pact(1, 0, 0);
        Check.due("no more", g.kind(0), OWN);
        g.debt(0, 2, 5);
        g.pact(0, 1, 1);
        Check.due("within one town", g.kind(1), OWN);
    }

    // 6 PAID
    private static void kindByPaid() {
        SeizedGoods g = one("", 9);
        g.pay(0, 8);
        Check.due("1 left", g.kind(0), OWN);
        g.pay(0, 1);
        Check.due("0 left", g.kind(0), PAID);
        Check.due("a safe one, though there is no pact", g.as(0, SAFE), 0);
    }

    // It is told as PAID, else SAFE, else BACK, else LETTERED, else TOWN, else OWN, the first that fits
    private static void kindToldAsTheFirstThatFits() {
        // Bred: man 1 of town 1 has one on man 3 of town 1, by a claim of man 0; town 1 asks for nothing.
        SeizedGoods g = Check.landed("town 1;town 1;man 0;man 1;man 0;man 1;road 0 1;law 0 0 100 1 0;law 1 0 100 1 0;");
        g.debt(3, 0, 9);
        g.goes(1, 0);
        Check.due("bred", g.seize(0, 1, 5), 1);
        Check.due("back, though town fits", g.kind(1), BACK);
        g.letter(1, 5, 5);
        g.ask(1);
        Check.due("back, though lettered fits", g.kind(1), BACK);
        Check.due("not taken as lettered", g.as(1, LETTERED), Check.KIND);
        Check.due("not taken as town", g.as(1, TOWN), Check.KIND);
        g.pact(0, 1, 1);
        Check.due("back: both are of one town", g.kind(1), BACK);
        g.letter(0, 5, 5);
        Check.due("safe, though lettered fits", g.kind(0), SAFE);
        g.pay(0, 9);
        Check.due("paid, though safe fits", g.kind(0), PAID);
        g.pay(1, 9);
        Check.due("paid, though back fits", g.kind(1), PAID);
        g.debt(2, 1, 5);
        Check.due("safe, though town fits", g.kind(2), SAFE);
        g.pact(0, 1, 0);
        Check.due("town", g.kind(2), TOWN);
        g.letter(2, 1, 0);
        Check.due("lettered, though town fits", g.kind(2), LETTERED);
    }

    /** Claim 0 is of this kind, one of 1 to 6; its sum is 20, and 12 are left of it (0 of a paid one). */
    private static SeizedGoods of(int kind) {
        SeizedGoods g = Check.landed("town 1;town 1;man 0;man 1;man 0;man 0;road 0 1;law 0 0 100 1 0;law 1 1 100 1 0;");
        int claim = 0;
        if (kind == BACK) {
            g.debt(3, 1, 99);
            g.goes(1, 0);
            claim = g.seize(0, 2, 20);
        } else {
            g.debt(3, 1, 20);
        }
        g.pay(claim, kind == PAID ? 20 : 8);
        if (kind == TOWN || kind == LETTERED) {
            g.ask(claim);
        }
        if (kind == LETTERED) {
            g.letter(claim, 7, 7);
        }
        if (kind == SAFE) {
            g.pact(0, 1, 1);
        }
        Check.due("made of kind " + kind, g.kind(number(kind)), kind);
        return g;
    }

    private static int number(int kind) {
        return kind == BACK ? 1 : 0;
    }

    // A CLAIM is taken as one of a KIND (0 .. 6): its number; KIND: it is not taken so
    private static void asOfEachKind() {
        for (int kind = OWN; kind <= PAID; kind++) {
            SeizedGoods g = of(kind);
            for (int as = CLAIM; as <= PAID; as++) {
                boolean fits = false;
                for (int is = kind; is >= 0; is = IS_TOO[is]) {
                    fits |= is == as;
                }
                Check.due(kind + " as " + as, g.as(number(kind), as), fits ? number(kind) : Check.KIND);
                Check.due(kind + " as " + as + ": status", g.status(), fits ? 0 : 3);
            }
            Check.due("as -1", g.as(number(kind), -1), Check.BAD);
            Check.due("as 7", g.as(number(kind), 7), Check.BAD);
        }
        SeizedGoods last = Check.landed("town 1;man 0;man 0;");
        for (int claim = 0; claim < 24; claim++) {
            last.debt(0, 1, 1);
        }
        Check.due("the last one", last.as(23, CLAIM), 23);
        Check.due("none behind it", last.as(24, CLAIM), Check.BAD);
    }

    private static void asLeavesAll() {
        for (int as = CLAIM; as <= PAID; as++) {
            int kind = as;
            for (int c = 0; c < 6; c++) {
                int claim = c;
                Twin.unchanged("claim " + claim + " as " + kind, Made::rich, g -> g.as(claim, kind));
            }
        }
    }

    private static void asked(SeizedGoods g, int claim, int what, int want, int... trace) {
        Check.due("ask " + what + " of claim " + claim, g.asks(claim, what), want);
        Check.dueAll("trace of ask " + what, Check.trace(g), trace);
        for (int i = trace.length; i <= 17; i++) {
            Check.due("no more", g.trace(i), Check.NONE);
        }
    }

    private static void sizeOfEachKind() {
        asked(of(OWN), 0, 0, 12 + 300, 11, 10, 21, 20);
        asked(of(TOWN), 0, 0, 12 * 2, 13, 10);
        asked(of(LETTERED), 0, 0, 12 * 2 + 7, 14, 13, 10);
        asked(of(BACK), 1, 0, 12 + 301 - 20, 12, 11, 10, 21, 20);
        asked(of(SAFE), 0, 0, -12, 15, 10);
        asked(of(PAID), 0, 0, 0, 15, 10);
    }

    private static void markOfEachKind() {
        asked(of(OWN), 0, 1, 300, 21, 20);
        asked(of(TOWN), 0, 1, 1000, 22, 20);
        asked(of(LETTERED), 0, 1, 1000 + 31, 23, 22, 20, 14, 13, 10);
        asked(of(BACK), 1, 1, 301, 21, 20);
        asked(of(SAFE), 0, 1, 0, 20);
        asked(of(PAID), 0, 1, -20, 24, 20);
    }

    private static void asksOfLeastAndGreatest() {
        // Asked never, and most often; sums of 1 and 999; who owes is man 0 and man 11.
        SeizedGoods g = Check.landed("town 1;" + "man 0;".repeat(12) + "law 0 0 100 1 0;");
        g.debt(0, 11, 1);
        g.debt(11, 0, 999);
        asked(g, 0, 0, 1, 13, 10);
        for (int k = 0; k < 300; k++) {
            g.ask(1);
        }
        asked(g, 1, 0, 999 * 301, 13, 10);
        g.letter(1, 999, 99);
        asked(g, 1, 0, 999 * 301 + 999, 14, 13, 10);
        SeizedGoods own = Check.landed("town 1;" + "man 0;".repeat(12));
        own.debt(0, 11, 1);
        own.debt(11, 0, 999);
        asked(own, 0, 0, 1, 11, 10, 21, 20);
        asked(own, 0, 1, 0, 21, 20);
        asked(own, 1, 0, 999 + 1101, 11, 10, 21, 20);
        asked(own, 1, 1, 1101, 21, 20);
        own.pay(1, 999);
        asked(own, 1, 0, 0, 15, 10);
        asked(own, 1, 1, 1 - 999, 24, 20);
        SeizedGoods safe = Check.landed("town 1;town 1;man 0;man 1;pact 0 1;");
        safe.debt(0, 1, 999);
        asked(safe, 0, 0, -999, 15, 10);
    }

    private static void asksOfTheLastClaim() {
        SeizedGoods g = Check.landed("town 1;man 0;man 0;");
        for (int claim = 0; claim < 24; claim++) {
            g.debt(1, 0, 10);
        }
        asked(g, 23, 0, 10 + 123, 11, 10, 21, 20);
        asked(g, 23, 1, 123, 21, 20);
        Check.due("none behind it", g.asks(24, 0), Check.BAD);
    }

    // Number i of THE TRACE; NONE
    private static void traceAtFirst() {
        SeizedGoods g = new SeizedGoods();
        for (int i : new int[] {Integer.MIN_VALUE, -1, 0, 1, 15, 16, Integer.MAX_VALUE}) {
            Check.due("none at first", g.trace(i), Check.NONE);
        }
        Check.read(g, "town 1;man 0;man 0;");
        g.debt(0, 1, 5);
        Check.due("none ahead of an ask", g.trace(0), Check.NONE);
        Check.due("refused", g.asks(0, 2), Check.BAD);
        Check.due("none by a refused one", g.trace(0), Check.NONE);
    }

    private static void traceOfEachAsk() {
        SeizedGoods g = of(LETTERED);
        g.asks(0, 1);
        int[] due = {23, 22, 20, 14, 13, 10};
        for (int i = 0; i < 6; i++) {
            Check.due("number " + i, g.trace(i), due[i]);
            Check.due("number " + i + " again", g.trace(i), due[i]);
        }
        for (int i : new int[] {Integer.MIN_VALUE, -2, -1, 6, 7, 15, 16, 17, Integer.MAX_VALUE}) {
            Check.due("none at " + i, g.trace(i), Check.NONE);
        }
    }

    // THE TRACE is empty ahead of it
    private static void traceIsEmptyAheadOfAnAsk() {
        SeizedGoods g = of(LETTERED);
        for (int k = 0; k < 5; k++) {
            asked(g, 0, 1, 1031, 23, 22, 20, 14, 13, 10);
            asked(g, 0, 0, 31, 14, 13, 10);
        }
        g.pact(0, 1, 1);
        asked(g, 0, 1, 0, 20);
    }

    private static void traceLeftByOtherCalls() {
        Twin.Call[] calls = {h -> h.sheet(0, 0, 1), h -> h.set(0, 0, 1), h -> h.drop(0), h -> h.feed(0x20, 1), h -> h.land(),
            h -> h.later(1), h -> h.goes(0, 1), h -> h.ask(0), h -> h.pay(0, 1), h -> h.kind(0), h -> h.as(0, 0),
            h -> h.as(0, 6), h -> h.asks(0, 2), h -> h.asks(0, -1), h -> h.asks(24, 0), h -> h.count(0), h -> h.grown(30, 0),
            h -> h.reform(10), h -> h.image(0), h -> Check.read(h, "town 1;")};
        for (int k = 0; k < calls.length; k++) {
            SeizedGoods g = of(LETTERED);
            g.asks(0, 0);
            calls[k].on(g);
            Check.dueAll("trace behind call " + k, Check.trace(g), 14, 13, 10);
        }
    }

    // How many: at first none of all
    private static void countAtFirst() {
        SeizedGoods g = new SeizedGoods();
        for (int what = 0; what <= 10; what++) {
            Check.due("count " + what, g.count(what), 0);
        }
        Check.due("-1", g.count(-1), Check.BAD);
        Check.due("11", g.count(11), Check.BAD);
    }

    private static void countOfAll() {
        SeizedGoods g = new SeizedGoods();
        Made.rich(g);
        int[] rich = {4, 6, 12, 4, 1, 2, 6, 1, 10, 3, 13};
        for (int what = 0; what <= 10; what++) {
            Check.due("rich count " + what, g.count(what), rich[what]);
        }
        SeizedGoods full = new SeizedGoods();
        Made.crowded(full);
        int[] crowded = {4, 6, 12, 4, 1, 2, 24, 1, 10, 3, 13};
        for (int what = 0; what <= 10; what++) {
            Check.due("crowded count " + what, full.count(what), crowded[what]);
        }
    }

    private static void countOfTheTape() {
        SeizedGoods g = new SeizedGoods();
        for (int bytes = 1; bytes <= 400; bytes++) {
            g.feed(0x20, 1);
        }
        Check.due("400", g.count(10), 400);
        for (int k = 0; k < 12; k++) {
            g.feed(0x20, 8);
        }
        Check.due("496", g.count(10), 496);
        g.feed(0x20, 4);
        Check.due("500", g.count(10), 500);
        g.feed(0x20, 1);
        Check.due("500 still", g.count(10), 500);
        g.land();
        Check.due("0", g.count(10), 0);
    }

    /** What the latest calls left, a FAULT, a finding, THE TRACE, is told of them, whatever was restored since. */
    private static void latestStaysBehindRestore() {
        SeizedGoods g = of(LETTERED);
        g.image(0);
        Check.read(g, "town 100;");
        g.asks(0, 0);
        g.drop(7);
        Check.due("restored", g.restore(0), 1);
        Check.due("the latest fault", g.fault(), 2);
        Check.due("the latest finding", g.status(), 1);
        Check.dueAll("the latest trace", Check.trace(g), 14, 13, 10);
    }
}
