/** States of an object that tests begin with. */
final class Made {
    /** All six towns and twelve men; men 0 and 6 are of town 0, 1 and 7 of town 1, and so on. */
    static final String TEXT = "town 40;town 31;town 22;town 13;town 4;town 99;"
        + "man 0;man 1;man 2;man 3;man 4;man 5;man 0;man 1;man 2;man 3;man 4;man 5;"
        + "road 0 1;road 1 2;road 2 0;road 2 3;law 0 0 50 1 0;law 1 1 100 1 1;law 2 0 25 0 1;fair 2 4 6;pact 0 3;";

    private Made() { }

    /** Sheets 0 to 3, rows of debts in three of them; sheets 4 to 7 are missing. */
    static void sheets(SeizedGoods g) {
        for (int lane = 0; lane < 3; lane++) {
            int items = lane == 0 ? 40 : 9;
            g.sheet(lane, lane, items);
            g.set(lane, 0, 5);
            g.set(lane, 1, 1 + lane);
            g.set(lane, 2, 7 + lane);
            for (int have = 3; have < items - 2; have *= 2) {
                g.copy(lane, 0, lane, have, Math.min(have, items / 3 * 3 - have));
            }
        }
        g.sheet(3, 2, 0);
    }

    /** No land: a fault, sheets, bytes on the tape, and a finding that status() tells. */
    static void landless(SeizedGoods g) {
        Check.read(g, "x");
        sheets(g);
        Check.feed(g, "town 8;man 0;");
        g.drop(6);
    }

    /** A land with six claims on day 3, both images, a trace, and all that landless has. */
    static void rich(SeizedGoods g) {
        landless(g);
        g.land();
        Check.read(g, "town 100;");
        Check.read(g, TEXT);
        g.debt(0, 1, 100);
        g.debt(4, 5, 60);
        g.debt(2, 1, 33);
        g.goes(1, 0);
        g.image(1);
        g.ask(0);
        g.letter(0, 20, 9);
        g.seize(0, 6, 10);
        g.swear(1, 0, 1);
        g.swear(5, 0, 0);
        g.later(3);
        g.debt(9, 8, 999);
        g.pay(1, 60);
        g.debt(11, 3, 1);
        g.image(0);
        g.pact(4, 5, 1);
        g.asks(0, 1);
        Check.feed(g, "town 8;man 0;");
        g.drop(6);
    }

    /** As rich, but with no room for a claim. */
    static void crowded(SeizedGoods g) {
        rich(g);
        for (int claim = 6; claim < 24; claim++) {
            g.debt(0, 1, claim);
        }
    }

    /** As rich, but with no room on the tape. */
    static void taped(SeizedGoods g) {
        rich(g);
        for (int room = 500 - g.count(10); room > 0; room -= Math.min(8, room)) {
            g.feed(0x2020202020202020L, Math.min(8, room));
        }
    }

    /** A land, and nothing more. */
    static void plain(SeizedGoods g) {
        Check.read(g, TEXT);
    }
}
