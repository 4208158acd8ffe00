/** Terms 1 and promises 1 to 5, 42: what is told of SHEETS at its bounds. Refusals are in RefusalsTest. */
public final class BoundsOfSheetsTest {
    private static final int SHEETS = 8;

    public static void main(String[] args) {
        missingAtFirst();
        itemsAreZeroAtFirst();
        itemsAreZeroAgain();
        inPlaceOfWhatIsThere();
        lanesOfBytes();
        lanesOfShorts();
        lanesOfInts();
        noItems();
        fortyItems();
        allSheets();
        copyOfNone();
        copyOfAll();
        copyAsTheyWereAhead();
        copyKeepsWhatIsBeside();
        copyOfEachLane();
        dropAndMakeAnew();
        statusAtFirst();
        statusOfEachFinding();
        statusOfCallsWithoutFinding();
        statusLeftByRefusals();
        statusLeftByOtherCalls();
        Check.end();
    }

    /** A land of 12 men is read, and items i to i + 2 of a sheet become its one claim: what three items are, or BAD. */
    private static void row(SeizedGoods g, String what, int sheet, int i, int owes, int has, int sum) {
        Check.due(what + ": land", Check.read(g, "town 1;" + "man 0;".repeat(12)), 1);
        Check.due(what + ": row", g.debts(sheet, i, 1), 1);
        Check.due(what + ": who owes", g.claim(0, 1), owes);
        Check.due(what + ": whom", g.claim(0, 0), has);
        Check.due(what + ": sum", g.claim(0, 2), sum);
    }

    // SHEETS 0 .. 7 are missing (at first)
    private static void missingAtFirst() {
        for (int sheet = 0; sheet < SHEETS; sheet++) {
            SeizedGoods g = new SeizedGoods();
            Check.due("set", g.set(sheet, 0, 1), Check.NULL);
            Check.due("drop", g.drop(sheet), Check.NULL);
            Check.due("copy", g.copy(sheet, 0, sheet, 0, 0), Check.NULL);
            Check.due("debts", g.debts(sheet, 0, 1), Check.NULL);
            Check.due("none", g.count(0), 0);
        }
    }

    // 0 to 40 ITEMS, 0 at first: an ITEM that is 0 is man 0, who owes.
    private static void itemsAreZeroAtFirst() {
        for (int lane = 0; lane < 3; lane++) {
            for (int i = 0; i < 40; i++) {
                SeizedGoods g = new SeizedGoods();
                g.sheet(0, lane, 40);
                zero(g, "lane " + lane + " item " + i, lane, i);
            }
        }
    }

    private static void zero(SeizedGoods g, String what, int lane, int i) {
        g.sheet(7, lane, 3);
        g.set(7, 0, 9);
        g.set(7, 1, 11);
        g.set(7, 2, 5);
        Check.due(what, g.copy(0, i, 7, 0, 1), 1);
        row(g, what, 7, 0, 0, 11, 5);
    }

    // A SHEET of a LANE with n ITEMS, in place of what is there: 0 at first, this one, too.
    private static void itemsAreZeroAgain() {
        int[][] sizes = {{40, 40}, {3, 40}, {40, 3}, {40, 0}, {0, 40}};
        for (int[] size : sizes) {
            for (int lane = 0; lane < 3; lane++) {
                SeizedGoods g = new SeizedGoods();
                g.sheet(0, 2, size[0]);
                for (int i = 0; i < size[0]; i++) {
                    g.set(0, i, 6);
                }
                g.sheet(0, lane, size[1]);
                g.sheet(0, lane, 40);
                zero(g, "first item again", lane, 0);
                zero(g, "third item again", lane, 2);
                zero(g, "last item again", lane, 39);
            }
        }
        SeizedGoods dropped = new SeizedGoods();
        dropped.sheet(0, 1, 40);
        dropped.set(0, 39, 6);
        dropped.drop(0);
        dropped.sheet(0, 1, 40);
        zero(dropped, "behind a drop", 1, 39);
    }

    private static void inPlaceOfWhatIsThere() {
        SeizedGoods g = new SeizedGoods();
        Check.due("of 40", g.sheet(2, 0, 40), 40);
        Check.due("of 1 in its place", g.sheet(2, 2, 1), 1);
        Check.due("one sheet", g.count(0), 1);
        Check.due("its last place", g.set(2, 0, 1000000), 1000000);
        Check.due("no place now", g.set(2, 1, 1), Check.PLACE);
        Check.due("of none in its place", g.sheet(2, 1, 0), 0);
        Check.due("one sheet", g.count(0), 1);
        Check.due("no place now", g.set(2, 0, 1), Check.PLACE);
        Check.due("had none", g.drop(2), 0);
    }

    private static void set(SeizedGoods g, int[][] cases) {
        for (int[] one : cases) {
            Check.due("set to " + one[0], g.set(0, 0, one[0]), one[1]);
        }
    }

    // ITEM i becomes v, its lowest bits, as many as the LANE has: what it is then.
    private static void lanesOfBytes() {
        SeizedGoods g = new SeizedGoods();
        g.sheet(0, 0, 1);
        set(g, new int[][] {{0, 0}, {1, 1}, {-1, -1}, {126, 126}, {127, 127}, {128, -128}, {129, -127}, {-127, -127},
            {-128, -128}, {-129, 127}, {255, -1}, {256, 0}, {257, 1}, {-256, 0}, {-257, -1}, {32767, -1}, {32768, 0},
            {Integer.MAX_VALUE, -1}, {Integer.MIN_VALUE, 0}, {Integer.MIN_VALUE + 127, 127}, {Integer.MIN_VALUE + 128, -128}});
    }

    private static void lanesOfShorts() {
        SeizedGoods g = new SeizedGoods();
        g.sheet(0, 1, 1);
        set(g, new int[][] {{0, 0}, {128, 128}, {-129, -129}, {32766, 32766}, {32767, 32767}, {32768, -32768}, {32769, -32767},
            {-32768, -32768}, {-32769, 32767}, {65535, -1}, {65536, 0}, {65537, 1}, {-65536, 0}, {-65537, -1},
            {Integer.MAX_VALUE, -1}, {Integer.MIN_VALUE, 0}, {Integer.MIN_VALUE + 32768, -32768}});
    }

    private static void lanesOfInts() {
        SeizedGoods g = new SeizedGoods();
        g.sheet(0, 2, 1);
        set(g, new int[][] {{0, 0}, {-1, -1}, {128, 128}, {32768, 32768}, {65536, 65536}, {-32769, -32769},
            {Integer.MAX_VALUE, Integer.MAX_VALUE}, {Integer.MAX_VALUE - 1, Integer.MAX_VALUE - 1},
            {Integer.MIN_VALUE, Integer.MIN_VALUE}, {Integer.MIN_VALUE + 1, Integer.MIN_VALUE + 1}});
        // What is answered may look like a refusal, and is none.
        g.drop(5);
        Check.due("set to what BAD is", g.set(0, 0, Check.BAD), Check.BAD);
        Check.due("found nothing", g.status(), 0);
        // What is kept is what was answered: 300 in a byte is 44.
        SeizedGoods b = new SeizedGoods();
        b.sheet(0, 0, 3);
        b.set(0, 0, 256 + 3);
        b.set(0, 1, 512 + 4);
        Check.due("300 in a byte", b.set(0, 2, 300), 44);
        row(b, "bytes", 0, 0, 3, 4, 44);
        b.sheet(1, 1, 3);
        b.set(1, 0, 65536 + 3);
        b.set(1, 1, -65536 + 4);
        Check.due("66535 in a short", b.set(1, 2, 65536 + 999), 999);
        row(b, "shorts", 1, 0, 3, 4, 999);
    }

    // A SHEET of no ITEMS
    private static void noItems() {
        for (int lane = 0; lane < 3; lane++) {
            SeizedGoods g = new SeizedGoods();
            Check.due("none", g.sheet(0, lane, 0), 0);
            Check.due("there all the same", g.count(0), 1);
            Check.due("no first place", g.set(0, 0, 0), Check.PLACE);
            Check.due("none to itself", g.copy(0, 0, 0, 0, 0), 0);
            Check.due("found nothing", g.status(), 0);
            Check.due("one to itself", g.copy(0, 0, 0, 0, 1), Check.PLACE);
            Check.due("none from beyond", g.copy(0, 1, 0, 0, 0), Check.PLACE);
            Check.due("no row", g.debts(0, 0, 1), Check.PLACE);
            Check.due("had none", g.drop(0), 0);
            Check.due("gone", g.drop(0), Check.NULL);
        }
    }

    private static void fortyItems() {
        for (int lane = 0; lane < 3; lane++) {
            SeizedGoods g = new SeizedGoods();
            Check.due("39", g.sheet(1, lane, 39), 39);
            Check.due("place 38", g.set(1, 38, 8), 8);
            Check.due("place 39", g.set(1, 39, 8), Check.PLACE);
            Check.due("40", g.sheet(0, lane, 40), 40);
            Check.due("place 39", g.set(0, 39, 9), 9);
            Check.due("place 40", g.set(0, 40, 9), Check.PLACE);
            g.set(0, 37, 1);
            g.set(0, 38, 2);
            row(g, "the last row", 0, 37, 1, 2, 9);
            Check.due("a row from 38", g.debts(0, 38, 1), Check.PLACE);
            Check.due("had 40", g.drop(0), 40);
            Check.due("had 39", g.drop(1), 39);
        }
    }

    /** All eight at once, each with all its items its own. */
    private static void allSheets() {
        SeizedGoods g = new SeizedGoods();
        for (int sheet = 0; sheet < SHEETS; sheet++) {
            g.sheet(sheet, 2, 40);
            g.set(sheet, 0, sheet);
            g.set(sheet, 1, 11 - sheet);
            g.set(sheet, 2, 100 + sheet);
            g.copy(sheet, 0, sheet, 37, 3);
            Check.due("so many", g.count(0), sheet + 1);
        }
        for (int sheet = 0; sheet < SHEETS; sheet++) {
            row(g, "first row of " + sheet, sheet, 0, sheet, 11 - sheet, 100 + sheet);
            row(g, "last row of " + sheet, sheet, 37, sheet, 11 - sheet, 100 + sheet);
        }
        for (int sheet = 0; sheet < SHEETS; sheet++) {
            Check.due("had", g.drop(sheet), 40);
            Check.due("so many left", g.count(0), 7 - sheet);
        }
    }

    // n ITEMS of a from i on come to b from j on: n may be 0, at the end, too
    private static void copyOfNone() {
        SeizedGoods g = new SeizedGoods();
        g.sheet(0, 1, 5);
        g.sheet(1, 1, 3);
        Check.due("at the beginning", g.copy(0, 0, 1, 0, 0), 0);
        Check.due("at both ends", g.copy(0, 5, 1, 3, 0), 0);
        Check.due("beyond the end of a", g.copy(0, 6, 1, 3, 0), Check.PLACE);
        Check.due("beyond the end of b", g.copy(0, 5, 1, 4, 0), Check.PLACE);
        Check.due("i below 0", g.copy(0, -1, 1, 0, 0), Check.PLACE);
        Check.due("j below 0", g.copy(0, 0, 1, -1, 0), Check.PLACE);
        Check.due("n below 0", g.copy(0, 1, 1, 1, -1), Check.PLACE);
        // Sums that wrap around are beyond the end, too.
        int most = Integer.MAX_VALUE;
        Check.due("i wraps", g.copy(0, most, 1, 0, 1), Check.PLACE);
        Check.due("j wraps", g.copy(0, 0, 1, most, 1), Check.PLACE);
        Check.due("n wraps", g.copy(0, 1, 1, 1, most), Check.PLACE);
        Check.due("all wrap", g.copy(0, most, 1, most, most), Check.PLACE);
        Check.due("least", g.copy(0, Integer.MIN_VALUE, 1, Integer.MIN_VALUE, Integer.MIN_VALUE), Check.PLACE);
        Check.due("i and n wrap to 0", g.copy(0, Integer.MIN_VALUE, 1, 0, Integer.MIN_VALUE), Check.PLACE);
    }

    private static void copyOfAll() {
        SeizedGoods g = new SeizedGoods();
        g.sheet(0, 2, 40);
        g.sheet(1, 2, 40);
        for (int i = 0; i < 40; i++) {
            g.set(0, i, i % 3 == 2 ? 50 + i : 1 + i % 3);
        }
        Check.due("all", g.copy(0, 0, 1, 0, 40), 40);
        Check.due("one more", g.copy(0, 0, 1, 0, 41), Check.PLACE);
        for (int i = 0; i < 39; i += 3) {
            row(g, "row from " + i, 1, i, 1, 2, 52 + i);
        }
        SeizedGoods s = new SeizedGoods();
        s.sheet(0, 2, 40);
        s.sheet(1, 2, 6);
        Check.due("as many as b has", s.copy(0, 34, 1, 0, 6), 6);
        Check.due("one more than b has", s.copy(0, 0, 1, 0, 7), Check.PLACE);
        Check.due("one more than a has", s.copy(1, 0, 0, 0, 7), Check.PLACE);
        Check.due("up to the end of b", s.copy(0, 0, 1, 5, 1), 1);
        Check.due("beyond the end of b", s.copy(0, 0, 1, 5, 2), Check.PLACE);
        Check.due("up to the end of a", s.copy(1, 5, 0, 0, 1), 1);
        Check.due("beyond the end of a", s.copy(1, 5, 0, 0, 2), Check.PLACE);
    }

    // .. as they were ahead: within one SHEET, forwards, backwards, by one and onto themselves
    private static void copyAsTheyWereAhead() {
        int[] ahead = {1, 2, 5, 3, 4, 6, 7, 8, 9};
        for (int i = 0; i < 9; i++) {
            for (int j = 0; j < 9; j++) {
                int n = Math.min(9 - i, 9 - j);
                int[] due = ahead.clone();
                for (int k = 0; k < n; k++) {
                    due[j + k] = ahead[i + k];
                }
                SeizedGoods g = new SeizedGoods();
                g.sheet(4, 0, 9);
                for (int k = 0; k < 9; k++) {
                    g.set(4, k, ahead[k]);
                }
                Check.due("copy within", g.copy(4, i, 4, j, n), n);
                for (int k = 0; k < 9; k++) {
                    sumOf(g, "from " + i + " to " + j + " item " + k, 4, 0, k, due[k]);
                }
            }
        }
    }

    /** One item, seen as the sum of a row in sheet 7. */
    private static void sumOf(SeizedGoods g, String what, int sheet, int lane, int i, int want) {
        g.sheet(7, lane, 3);
        g.set(7, 1, 1);
        g.copy(sheet, i, 7, 2, 1);
        row(g, what, 7, 0, 0, 1, want);
    }

    private static void copyKeepsWhatIsBeside() {
        SeizedGoods g = new SeizedGoods();
        g.sheet(0, 2, 6);
        g.sheet(1, 2, 6);
        for (int i = 0; i < 6; i++) {
            g.set(0, i, 10 + i);
            g.set(1, i, 20 + i);
        }
        Check.due("two in the middle", g.copy(0, 1, 1, 3, 2), 2);
        int[] to = {20, 21, 22, 11, 12, 25};
        for (int i = 0; i < 6; i++) {
            sumOf(g, "of a", 0, 2, i, 10 + i);
            sumOf(g, "of b", 1, 2, i, to[i]);
        }
    }

    private static void copyOfEachLane() {
        int[] values = {127, 32767, 999};
        for (int lane = 0; lane < 3; lane++) {
            SeizedGoods g = new SeizedGoods();
            g.sheet(0, lane, 1);
            g.sheet(1, lane, 1);
            g.set(0, 0, Math.min(999, values[lane]));
            Check.due("one lane", g.copy(0, 0, 1, 0, 1), 1);
            Check.due("found nothing", g.status(), 0);
            sumOf(g, "copied", 1, lane, 0, Math.min(999, values[lane]));
        }
    }

    // A SHEET is missing from now on: how many ITEMS it had.
    private static void dropAndMakeAnew() {
        SeizedGoods g = new SeizedGoods();
        for (int n : new int[] {0, 1, 39, 40}) {
            g.sheet(6, 1, n);
            Check.due("had", g.drop(6), n);
            Check.due("count", g.count(0), 0);
            Check.due("set", g.set(6, 0, 0), Check.NULL);
            Check.due("copy", g.copy(6, 0, 6, 0, 0), Check.NULL);
            Check.due("debts", g.debts(6, 0, 1), Check.NULL);
            Check.due("drop", g.drop(6), Check.NULL);
        }
        Check.due("another lane", g.sheet(6, 0, 4), 4);
        Check.due("is a byte", g.set(6, 0, 128), -128);
        g.sheet(5, 1, 4);
        Check.due("two lanes", g.copy(5, 0, 6, 0, 1), Check.STORE);
        g.drop(5);
        g.sheet(5, 0, 4);
        Check.due("one lane now", g.copy(5, 0, 6, 0, 1), 1);
    }

    // status(): 0: .. or there was none
    private static void statusAtFirst() {
        SeizedGoods g = new SeizedGoods();
        Check.due("at first", g.status(), 0);
        g.sheet(8, 0, 0);
        g.debts(0, 0, 0);
        g.as(0, 0);
        Check.due("behind BAD alone", g.status(), 0);
        Check.due("asked again", g.status(), 0);
    }

    private static void statusOfEachFinding() {
        SeizedGoods g = Check.landed("town 1;man 0;man 0;");
        g.debt(0, 1, 5);
        g.sheet(0, 0, 2);
        g.sheet(1, 1, 2);
        Twin.Call[] calls = {h -> h.set(2, 0, 0), h -> h.copy(2, 0, 2, 0, 0), h -> h.drop(2), h -> h.debts(2, 0, 1),
            h -> h.set(0, 2, 0), h -> h.copy(0, 0, 0, 0, 3), h -> h.debts(0, 0, 1), h -> h.as(0, 5), h -> h.sheet(0, 0, -1),
            h -> h.copy(0, 0, 1, 0, 0)};
        int[] numbers = {1, 1, 1, 1, 2, 2, 2, 3, 4, 5};
        for (int k = 0; k < calls.length; k++) {
            g.copy(0, 0, 0, 0, 0);
            Check.due("no finding ahead", g.status(), 0);
            Check.due("call " + k, calls[k].on(g), -1000010 - numbers[k]);
            Check.due("its number " + k, g.status(), numbers[k]);
            Check.due("asked again", g.status(), numbers[k]);
        }
    }

    /** A land, one claim, a row of debts in sheet 0; a finding was told. */
    private static SeizedGoods found() {
        SeizedGoods g = Check.landed("town 1;man 0;man 0;");
        g.debt(0, 1, 5);
        g.sheet(0, 2, 3);
        g.set(0, 1, 1);
        g.set(0, 2, 1);
        Check.due("found", g.sheet(0, 0, -1), Check.SIZE);
        return g;
    }

    private static void statusOfCallsWithoutFinding() {
        Twin.Call[] calls = {h -> h.sheet(0, 0, 0), h -> h.sheet(7, 2, 40), h -> h.set(0, 0, 0), h -> h.copy(0, 0, 0, 0, 0),
            h -> h.drop(0), h -> h.debts(0, 0, 1), h -> h.as(0, 0)};
        for (int k = 0; k < calls.length; k++) {
            SeizedGoods g = found();
            Check.dueTrue("call " + k + " is not refused", calls[k].on(g) >= 0);
            Check.due("no finding " + k, g.status(), 0);
        }
    }

    // Of the latest call .. that was not BAD, STATE, FULL
    private static void statusLeftByRefusals() {
        SeizedGoods g = found();
        Twin.Call[] calls = {h -> h.sheet(-1, 0, 0), h -> h.sheet(0, 0, 41), h -> h.set(8, 0, 0), h -> h.copy(0, 0, 8, 0, 0),
            h -> h.drop(8), h -> h.debts(0, 0, 11), h -> h.as(1, 0), h -> h.as(0, 7)};
        for (int k = 0; k < calls.length; k++) {
            Check.due("BAD " + k, calls[k].on(g), Check.BAD);
            Check.due("left as it was " + k, g.status(), 4);
        }
        SeizedGoods item = found();
        item.set(0, 2, 0);
        item.sheet(0, 0, -1);
        Check.due("a bad item", item.debts(0, 0, 1), Check.BAD);
        Check.due("left as it was", item.status(), 4);
        SeizedGoods full = found();
        for (int k = 1; k < 24; k++) {
            full.debt(0, 1, 1);
        }
        Check.due("full", full.debts(0, 0, 1), Check.FULL);
        Check.due("left as it was", full.status(), 4);
    }

    private static void statusLeftByOtherCalls() {
        SeizedGoods g = found();
        g.feed(0x20, 1);
        g.land();
        g.fault();
        g.later(1);
        g.goes(0, 0);
        g.man(0, 0);
        g.law(0, 0);
        g.pact(0, 1, 1);
        g.debt(0, 1, 5);
        g.ask(0);
        g.letter(0, 1, 1);
        g.pay(0, 1);
        g.claim(0, 0);
        g.may(0, 0, 0);
        g.seize(0, 0, 1);
        g.swear(0, 0, 1);
        g.says(0);
        g.grown(1, 0);
        g.net(0);
        g.way(0, 0);
        g.opened(0, 0);
        g.shut(0, 1);
        g.dead();
        g.owes(0);
        g.rest(0);
        g.has(0, 0);
        g.holds(0, 1, 1);
        g.reform(1);
        g.image(0);
        g.restore(0);
        g.kind(0);
        g.asks(0, 0);
        g.trace(0);
        g.count(0);
        Check.due("left as it was", g.status(), 4);
        Check.read(g, "town 1;");
        Check.due("by a land, too", g.status(), 4);
    }
}
