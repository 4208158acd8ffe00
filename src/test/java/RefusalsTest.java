/**
 * Every refusal and finding of every call: at the least and the greatest number that is as told, next to it on both sides, and
 * for the least and the greatest int. What is refused changes nothing but status(); of several refusals the first is given.
 */
public final class RefusalsTest {
    private interface Numbers {
        int on(SeizedGoods g, int[] n);
    }

    private static final int TOWNS = 6, MEN = 12, CLAIMS = 6, SHEETS = 8;

    public static void main(String[] args) {
        sheetRanges();
        landRanges();
        claimRanges();
        foretoldRanges();
        askedRanges();
        alike();
        noLand();
        noLandNorTownsMenClaims();
        states();
        unlawfulSeizures();
        full();
        findings();
        badFirst();
        findingsInTime();
        itemsBehindFindings();
        Check.end();
    }

    /** Number k of a call goes from least to most; below and above are what is answered beyond. */
    private static void range(String name, Numbers call, int[] valid, int k, int least, int most, int below, int above) {
        for (int number : new int[] {least, Math.min(least + 1, most), Math.max(most - 1, least), most}) {
            SeizedGoods g = new SeizedGoods();
            Made.rich(g);
            int answer = call.on(g, with(valid, k, number));
            Check.dueTrue(told(name, k, number) + " is as told: " + answer, answer != Check.BAD);
            Check.dueTrue(told(name, k, number) + " is not beyond: " + answer, answer != below && answer != above);
        }
        for (int number : new int[] {least - 1, Integer.MIN_VALUE, Integer.MIN_VALUE + 1}) {
            Twin.refused(told(name, k, number), Made::rich, g -> call.on(g, with(valid, k, number)), below);
        }
        for (int number : new int[] {most + 1, Integer.MAX_VALUE, Integer.MAX_VALUE - 1}) {
            Twin.refused(told(name, k, number), Made::rich, g -> call.on(g, with(valid, k, number)), above);
        }
    }

    private static void range(String name, Numbers call, int[] valid, int k, int least, int most) {
        range(name, call, valid, k, least, most, Check.BAD, Check.BAD);
    }

    private static int[] with(int[] valid, int k, int number) {
        int[] numbers = valid.clone();
        numbers[k] = number;
        return numbers;
    }

    private static String told(String name, int k, int number) {
        return name + " with number " + k + " = " + number;
    }

    private static void sheetRanges() {
        Numbers sheet = (g, n) -> g.sheet(n[0], n[1], n[2]);
        range("sheet", sheet, new int[] {3, 1, 5}, 0, 0, SHEETS - 1);
        range("sheet", sheet, new int[] {3, 1, 5}, 1, 0, 2);
        range("sheet", sheet, new int[] {3, 1, 5}, 2, 0, 40, Check.SIZE, Check.BAD);
        Numbers set = (g, n) -> g.set(n[0], n[1], n[2]);
        range("set", set, new int[] {0, 1, 5}, 0, 0, SHEETS - 1);
        range("set", set, new int[] {0, 1, 5}, 1, 0, 39, Check.PLACE, Check.PLACE);
        range("set in nine items", set, new int[] {2, 1, 5}, 1, 0, 8, Check.PLACE, Check.PLACE);
        Numbers copy = (g, n) -> g.copy(n[0], n[1], n[2], n[3], n[4]);
        int[] valid = {2, 1, 2, 2, 3};
        range("copy", copy, valid, 0, 0, SHEETS - 1);
        range("copy", copy, valid, 1, 0, 6, Check.PLACE, Check.PLACE);
        range("copy", copy, valid, 2, 0, SHEETS - 1);
        range("copy", copy, valid, 3, 0, 6, Check.PLACE, Check.PLACE);
        range("copy up to the end of b", copy, valid, 4, 0, 7, Check.PLACE, Check.PLACE);
        range("copy up to the end of a", copy, new int[] {2, 3, 2, 1, 3}, 4, 0, 6, Check.PLACE, Check.PLACE);
        range("copy all", copy, new int[] {0, 0, 0, 0, 1}, 4, 0, 40, Check.PLACE, Check.PLACE);
        range("drop", (g, n) -> g.drop(n[0]), new int[] {0}, 0, 0, SHEETS - 1);
    }

    private static void landRanges() {
        range("feed", (g, n) -> g.feed(0x20L, n[0]), new int[] {1}, 0, 1, 8);
        range("later", (g, n) -> g.later(n[0]), new int[] {1}, 0, 0, 100);
        Numbers goes = (g, n) -> g.goes(n[0], n[1]);
        range("goes", goes, new int[] {0, 1}, 0, 0, MEN - 1);
        range("goes", goes, new int[] {0, 1}, 1, 0, TOWNS - 1);
        Numbers man = (g, n) -> g.man(n[0], n[1]);
        range("man", man, new int[] {0, 1}, 0, 0, MEN - 1);
        range("man", man, new int[] {0, 1}, 1, 0, 2);
        Numbers law = (g, n) -> g.law(n[0], n[1]);
        range("law", law, new int[] {0, 1}, 0, 0, TOWNS - 1);
        range("law", law, new int[] {0, 1}, 1, 0, 4);
        Numbers pact = (g, n) -> g.pact(n[0], n[1], n[2]);
        range("pact", pact, new int[] {0, 2, 1}, 0, 0, TOWNS - 1);
        range("pact", pact, new int[] {2, 0, 1}, 1, 0, TOWNS - 1);
        range("pact", pact, new int[] {0, 2, 1}, 2, 0, 1);
    }

    private static void claimRanges() {
        Numbers debt = (g, n) -> g.debt(n[0], n[1], n[2]);
        range("debt", debt, new int[] {0, 5, 9}, 0, 0, MEN - 1);
        range("debt", debt, new int[] {5, 0, 9}, 1, 0, MEN - 1);
        range("debt", debt, new int[] {5, 0, 9}, 2, 1, 999);
        Numbers debts = (g, n) -> g.debts(n[0], n[1], n[2]);
        range("debts", debts, new int[] {0, 0, 1}, 0, 0, SHEETS - 1);
        range("debts of one row", (g, n) -> notBadItem(g.debts(2, n[0], 1)), new int[] {0}, 0, 0, 6, Check.PLACE, Check.PLACE);
        range("debts of two rows", (g, n) -> notBadItem(g.debts(2, n[0], 2)), new int[] {0}, 0, 0, 3, Check.PLACE, Check.PLACE);
        range("debts of ten rows", (g, n) -> notBadItem(g.debts(0, n[0], 10)), new int[] {0}, 0, 0, 10, Check.PLACE, Check.PLACE);
        range("debts", debts, new int[] {0, 0, 1}, 2, 1, 10);
        range("ask", (g, n) -> g.ask(n[0]), new int[] {0}, 0, 0, CLAIMS - 1);
        Numbers letter = (g, n) -> g.letter(n[0], n[1], n[2]);
        range("letter", letter, new int[] {0, 5, 5}, 0, 0, CLAIMS - 1);
        range("letter", letter, new int[] {0, 5, 5}, 1, 1, 999);
        range("letter", letter, new int[] {0, 5, 5}, 2, 0, 99);
        Numbers pay = (g, n) -> g.pay(n[0], n[1]);
        range("pay", pay, new int[] {0, 5}, 0, 0, CLAIMS - 1);
        range("pay", pay, new int[] {0, 5}, 1, 1, 999);
        Numbers claim = (g, n) -> g.claim(n[0], n[1]);
        range("claim", claim, new int[] {0, 5}, 0, 0, CLAIMS - 1);
        range("claim", claim, new int[] {0, 5}, 1, 0, 8);
        Numbers may = (g, n) -> g.may(n[0], n[1], n[2]);
        range("may", may, new int[] {0, 0, 0}, 0, 0, CLAIMS - 1);
        range("may", may, new int[] {0, 0, 0}, 1, 0, MEN - 1);
        range("may", may, new int[] {0, 0, 0}, 2, 0, 1);
        Numbers seize = (g, n) -> g.seize(n[0], n[1], n[2]);
        range("seize", seize, new int[] {0, 6, 5}, 0, 0, CLAIMS - 1);
        range("seize", seize, new int[] {0, 6, 5}, 1, 0, MEN - 1);
        range("seize", seize, new int[] {0, 6, 5}, 2, 1, 999);
        Numbers swear = (g, n) -> g.swear(n[0], n[1], n[2]);
        range("swear", swear, new int[] {0, 0, 0}, 0, 0, TOWNS - 1);
        range("swear", swear, new int[] {0, 0, 0}, 1, 0, CLAIMS - 1);
        range("swear", swear, new int[] {0, 0, 0}, 2, 0, 1);
        range("says", (g, n) -> g.says(n[0]), new int[] {0}, 0, 0, CLAIMS - 1);
    }

    /** Rows that begin between those told are of items that are BAD, but their place is one. */
    private static int notBadItem(int answer) {
        return answer == Check.BAD ? 0 : answer;
    }

    private static void foretoldRanges() {
        Numbers grown = (g, n) -> g.grown(n[0], n[1]);
        range("grown", grown, new int[] {1, 0}, 0, 1, 30);
        range("grown", grown, new int[] {1, 0}, 1, 0, 2);
        range("net", (g, n) -> g.net(n[0]), new int[] {0}, 0, 0, 2);
        Numbers way = (g, n) -> g.way(n[0], n[1]);
        range("way", way, new int[] {0, 1}, 0, 0, MEN - 1);
        range("way", way, new int[] {0, 1}, 1, 0, TOWNS - 1);
        Numbers opened = (g, n) -> g.opened(n[0], n[1]);
        range("opened", opened, new int[] {0, 1}, 0, 0, MEN - 1);
        range("opened", opened, new int[] {0, 1}, 1, 0, TOWNS - 1);
        Numbers shut = (g, n) -> g.shut(n[0], n[1]);
        range("shut", shut, new int[] {0, 2}, 0, 0, TOWNS - 1);
        range("shut", shut, new int[] {2, 0}, 1, 0, TOWNS - 1);
        range("owes", (g, n) -> g.owes(n[0]), new int[] {0}, 0, 0, TOWNS - 1);
        Numbers has = (g, n) -> g.has(n[0], n[1]);
        range("has", has, new int[] {0, 1}, 0, 0, TOWNS - 1);
        range("has", has, new int[] {0, 1}, 1, 0, 728);
        Numbers holds = (g, n) -> g.holds(n[0], n[1], n[2]);
        range("holds", holds, new int[] {0, 2, 9}, 0, 0, TOWNS - 1);
        range("holds", holds, new int[] {2, 0, 9}, 1, 0, TOWNS - 1);
        range("holds", holds, new int[] {2, 0, 9}, 2, 0, 99);
        range("reform", (g, n) -> g.reform(n[0]), new int[] {1}, 0, 1, 10);
        range("image", (g, n) -> g.image(n[0]), new int[] {1}, 0, 0, 1);
        range("restore", (g, n) -> g.restore(n[0]), new int[] {1}, 0, 0, 1);
        // Of rest() only what is below -1 is BAD: there are just not so many rows beyond the last.
        for (int i : new int[] {-2, -3, Integer.MIN_VALUE}) {
            Twin.refused("rest " + i, Made::rich, g -> g.rest(i), Check.BAD);
        }
        SeizedGoods g = new SeizedGoods();
        Made.rich(g);
        int rows = g.rest(-1);
        Check.dueTrue("rows at rest", rows > 0 && g.rest(0) >= 0 && g.rest(rows - 1) >= 0);
        for (int i : new int[] {rows, rows + 1, 729, Integer.MAX_VALUE}) {
            Check.due("rest " + i, g.rest(i), Check.NONE);
        }
    }

    private static void askedRanges() {
        range("kind", (g, n) -> g.kind(n[0]), new int[] {0}, 0, 0, CLAIMS - 1);
        Numbers as = (g, n) -> g.as(n[0], n[1]);
        range("as", as, new int[] {0, 0}, 0, 0, CLAIMS - 1);
        range("as", as, new int[] {0, 0}, 1, 0, 6);
        Numbers asks = (g, n) -> g.asks(n[0], n[1]);
        range("asks", asks, new int[] {0, 0}, 0, 0, CLAIMS - 1);
        range("asks", asks, new int[] {0, 0}, 1, 0, 1);
        range("count", (g, n) -> g.count(n[0]), new int[] {0}, 0, 0, 10);
        // There is no number that trace() refuses.
        for (int i : new int[] {-1, Integer.MIN_VALUE, 16, 17, Integer.MAX_VALUE}) {
            Twin.unchanged("trace " + i, Made::rich, g -> g.trace(i));
            SeizedGoods g = new SeizedGoods();
            Made.rich(g);
            Check.due("trace " + i, g.trace(i), Check.NONE);
        }
    }

    private static void alike() {
        for (int k = 0; k < MEN; k++) {
            int man = k;
            Twin.refused("debt of one to himself", Made::rich, g -> g.debt(man, man, 5), Check.BAD);
        }
        for (int k = 0; k < TOWNS; k++) {
            int town = k;
            Twin.refused("pact alike", Made::rich, g -> g.pact(town, town, 1), Check.BAD);
            Twin.refused("no pact alike", Made::rich, g -> g.pact(town, town, 0), Check.BAD);
            Twin.refused("shut alike", Made::rich, g -> g.shut(town, town), Check.BAD);
            Twin.refused("holds alike", Made::rich, g -> g.holds(town, town, 99), Check.BAD);
        }
    }

    private static void noLand() {
        Twin.refused("later 0, no land", Made::landless, g -> g.later(0), Check.STATE);
        Twin.refused("later 100, no land", Made::landless, g -> g.later(100), Check.STATE);
        for (int k = 0; k < 3; k++) {
            int what = k;
            Twin.refused("grown, no land", Made::landless, g -> g.grown(1 + 29 * (what & 1), what), Check.STATE);
            Twin.refused("net, no land", Made::landless, g -> g.net(what), Check.STATE);
        }
        Twin.refused("dead, no land", Made::landless, g -> g.dead(), Check.STATE);
        for (int i : new int[] {-1, 0, 1, Integer.MAX_VALUE}) {
            Twin.refused("rest, no land", Made::landless, g -> g.rest(i), Check.STATE);
        }
        Twin.refused("reform 1, no land", Made::landless, g -> g.reform(1), Check.STATE);
        Twin.refused("reform 10, no land", Made::landless, g -> g.reform(10), Check.STATE);
        for (int k = 0; k < 2; k++) {
            int image = k;
            Twin.refused("image, no land", Made::landless, g -> g.image(image), Check.STATE);
            Twin.refused("restore, no land", Made::landless, g -> g.restore(image), Check.STATE);
        }
        // A faulty text is no land either, however much of it could be read.
        Twin.Steps faulty = g -> {
            Made.landless(g);
            Check.due("faulty", Check.read(g, "man 1;"), -1000100 - 17);
        };
        Twin.refused("later behind a fault", faulty, g -> g.later(0), Check.STATE);
        Twin.refused("image behind a fault", faulty, g -> g.image(0), Check.STATE);
        Twin.refused("law behind a fault", faulty, g -> g.law(0, 4), Check.BAD);
        Twin.refused("man behind a fault", faulty, g -> g.man(0, 0), Check.BAD);
    }

    private static void noLandNorTownsMenClaims() {
        Twin.Call[] calls = {g -> g.goes(0, 0), g -> g.man(0, 0), g -> g.law(0, 0), g -> g.pact(0, 1, 1), g -> g.debt(0, 1, 1),
            g -> g.debts(0, 0, 1), g -> g.ask(0), g -> g.letter(0, 1, 1), g -> g.pay(0, 1), g -> g.claim(0, 0),
            g -> g.may(0, 0, 0), g -> g.seize(0, 0, 1), g -> g.swear(0, 0, 1), g -> g.says(0), g -> g.way(0, 0),
            g -> g.opened(0, 0), g -> g.shut(0, 1), g -> g.owes(0), g -> g.has(0, 0), g -> g.holds(0, 1, 5), g -> g.kind(0),
            g -> g.as(0, 0), g -> g.asks(0, 0)};
        for (int k = 0; k < calls.length; k++) {
            Twin.refused("no land: call " + k, Made::landless, calls[k], Check.BAD);
        }
        // A land without men, and one with men but without claims.
        Twin.Steps menless = g -> Check.read(g, "town 1;town 2;road 0 1;");
        int[] ofMen = {0, 1, 4, 14, 15};
        for (int k : ofMen) {
            Twin.refused("no men: call " + k, menless, calls[k], Check.BAD);
        }
        int[] ofClaims = {6, 7, 8, 9, 10, 11, 12, 13, 20, 21, 22};
        for (int k : ofClaims) {
            Twin.refused("no claims: call " + k, Made::plain, calls[k], Check.BAD);
        }
    }

    private static void states() {
        Twin.refused("no road from 0 to 3", Made::rich, g -> g.goes(0, 3), Check.STATE);
        Twin.refused("no road to where he is", Made::rich, g -> g.goes(0, 0), Check.STATE);
        Twin.refused("no road to a town without any", Made::rich, g -> g.goes(11, 4), Check.STATE);
        // Claim 1 of rich is paid.
        Twin.refused("ask of a paid one", Made::rich, g -> g.ask(1), Check.STATE);
        Twin.refused("letter of a paid one", Made::rich, g -> g.letter(1, 1, 0), Check.STATE);
        Twin.Steps paidBySeizure = g -> {
            Made.rich(g);
            for (int left = 90; left > 0; left = g.claim(0, 3)) {
                g.seize(0, 0, g.may(0, 0, 1));
            }
        };
        Twin.refused("ask of one paid by seizures", paidBySeizure, g -> g.ask(0), Check.STATE);
        Twin.refused("letter of one paid by seizures", paidBySeizure, g -> g.letter(0, 1, 0), Check.STATE);
        Twin.refused("restore of none", Made::plain, g -> g.restore(0), Check.STATE);
        Twin.refused("restore of none", Made::plain, g -> g.restore(1), Check.STATE);
        Twin.Steps one = g -> {
            Made.plain(g);
            g.image(1);
        };
        Twin.refused("restore of the other one", one, g -> g.restore(0), Check.STATE);
    }

    private static void unlawfulSeizures() {
        // Of claim 0, 90 left, had by man 1 who is at town 0: half of it may be seized.
        Twin.refused("seize above most", Made::rich, g -> g.seize(0, 6, 46), Check.STATE);
        Twin.refused("seize far above most", Made::rich, g -> g.seize(0, 0, 999), Check.STATE);
        SeizedGoods most = new SeizedGoods();
        Made.rich(most);
        Check.due("seize the most", most.seize(0, 6, 45), 6);
        word(1, Made::rich, 1, 4);
        word(2, Made::rich, 0, 2);
        word(3, Made::rich, 0, 1);
        word(4, g -> then(g, h -> h.pact(0, 1, 1)), 0, 6);
        word(5, g -> then(g, RefusalsTest::allToTheFair), 0, 0);
        word(6, g -> then(g, h -> h.goes(2, 0)), 0, 2);
        word(7, g -> then(g, h -> unasked(h)), 6, 6);
        word(8, g -> then(g, h -> h.goes(1, 1) + h.goes(0, 1) + h.later(10)), 0, 0);
    }

    private static int allToTheFair(SeizedGoods g) {
        return g.goes(0, 2) + g.goes(1, 2) + g.later(1);
    }

    /** A claim 6 on man 0 of one in town 1, where all must be asked once; man 6 is there. */
    private static int unasked(SeizedGoods g) {
        return g.debt(0, 7, 50) + g.goes(6, 1);
    }

    private static void then(SeizedGoods g, Twin.Call more) {
        Made.rich(g);
        more.on(g);
    }

    private static void word(int word, Twin.Steps made, int claim, int man) {
        SeizedGoods g = new SeizedGoods();
        made.on(g);
        Check.due("word " + word, g.may(claim, man, 0), word);
        Twin.refused("seize that lacks " + word, made, h -> h.seize(claim, man, 1), Check.STATE);
    }

    private static void full() {
        Twin.refused("debt, full", Made::crowded, g -> g.debt(0, 5, 1), Check.FULL);
        for (int n = 1; n <= 10; n++) {
            int rows = n;
            Twin.refused("debts, full", Made::crowded, g -> g.debts(0, 0, rows), Check.FULL);
        }
        for (int n = 1; n <= 8; n++) {
            int bytes = n;
            Twin.refused("feed, full", Made::taped, g -> g.feed(-1L, bytes), Check.FULL);
        }
    }

    private static void findings() {
        for (int sheet = 4; sheet < SHEETS; sheet++) {
            int missing = sheet;
            Twin.refused("set of a missing one", Made::rich, g -> g.set(missing, 0, 0), Check.NULL);
            Twin.refused("copy from a missing one", Made::rich, g -> g.copy(missing, 0, 0, 0, 0), Check.NULL);
            Twin.refused("copy to a missing one", Made::rich, g -> g.copy(0, 0, missing, 0, 0), Check.NULL);
            Twin.refused("drop of a missing one", Made::rich, g -> g.drop(missing), Check.NULL);
            Twin.refused("debts of a missing one", Made::rich, g -> g.debts(missing, 0, 1), Check.NULL);
        }
        for (int a = 0; a < 3; a++) {
            for (int b = 0; b < 3; b++) {
                int from = a;
                int to = b;
                if (a != b) {
                    Twin.refused("two lanes", Made::rich, g -> g.copy(from, 0, to, 0, 1), Check.STORE);
                    Twin.refused("two lanes, no items", Made::rich, g -> g.copy(from, 0, to, 0, 0), Check.STORE);
                }
            }
        }
        Twin.refused("no place in an empty one", Made::rich, g -> g.set(3, 0, 0), Check.PLACE);
        Twin.refused("no place in an empty one", Made::rich, g -> g.copy(3, 0, 2, 0, 1), Check.PLACE);
        Twin.refused("no place in an empty one", Made::rich, g -> g.copy(2, 0, 3, 0, 1), Check.PLACE);
        Twin.refused("no row in an empty one", Made::rich, g -> g.debts(3, 0, 1), Check.PLACE);
        Twin.refused("not that kind", Made::rich, g -> g.as(0, 6), Check.KIND);
        Twin.refused("fewer than none, in place of one", Made::rich, g -> g.sheet(0, 2, -1), Check.SIZE);
        Twin.refused("fewer than none, where one is missing", Made::rich, g -> g.sheet(7, 2, -1), Check.SIZE);
    }

    /** Two refusals fit, or three: BAD is ahead of STATE, FULL and what would be found. */
    private static void badFirst() {
        Twin.refused("sheet: bad, size", Made::rich, g -> g.sheet(8, 0, -1), Check.BAD);
        Twin.refused("sheet: bad, size", Made::rich, g -> g.sheet(0, 3, -1), Check.BAD);
        Twin.refused("set: bad, place", Made::rich, g -> g.set(8, -1, 0), Check.BAD);
        Twin.refused("copy: bad, null", Made::rich, g -> g.copy(7, 0, 8, 0, 0), Check.BAD);
        Twin.refused("copy: bad, null", Made::rich, g -> g.copy(-1, 0, 7, 0, 0), Check.BAD);
        Twin.refused("copy: bad, place", Made::rich, g -> g.copy(0, -1, 8, -1, -1), Check.BAD);
        Twin.refused("feed: bad, full", Made::taped, g -> g.feed(0, 9), Check.BAD);
        Twin.refused("feed: bad, full", Made::taped, g -> g.feed(0, 0), Check.BAD);
        Twin.refused("later: bad, no land", Made::landless, g -> g.later(101), Check.BAD);
        Twin.refused("later: bad, no land", Made::landless, g -> g.later(-1), Check.BAD);
        Twin.refused("goes: bad, no road", Made::rich, g -> g.goes(12, 3), Check.BAD);
        Twin.refused("goes: bad, no road", Made::rich, g -> g.goes(0, 6), Check.BAD);
        Twin.refused("debt: bad, full", Made::crowded, g -> g.debt(0, 0, 5), Check.BAD);
        Twin.refused("debt: bad, full", Made::crowded, g -> g.debt(0, 1, 0), Check.BAD);
        Twin.refused("debt: bad, full", Made::crowded, g -> g.debt(0, 1, 1000), Check.BAD);
        Twin.refused("debts: bad, null", Made::rich, g -> g.debts(7, 0, 0), Check.BAD);
        Twin.refused("debts: bad, null", Made::rich, g -> g.debts(7, 0, 11), Check.BAD);
        Twin.refused("debts: bad, place", Made::rich, g -> g.debts(0, -1, 11), Check.BAD);
        Twin.refused("debts: bad, full", Made::crowded, g -> g.debts(0, 0, 11), Check.BAD);
        Twin.refused("letter: bad, paid", Made::rich, g -> g.letter(1, 0, 0), Check.BAD);
        Twin.refused("letter: bad, paid", Made::rich, g -> g.letter(1, 1, 100), Check.BAD);
        Twin.refused("seize: bad, not lawful", Made::rich, g -> g.seize(1, 4, 0), Check.BAD);
        Twin.refused("seize: bad, above most", Made::rich, g -> g.seize(0, 6, 1000), Check.BAD);
        Twin.refused("grown: bad, no land", Made::landless, g -> g.grown(0, 0), Check.BAD);
        Twin.refused("grown: bad, no land", Made::landless, g -> g.grown(31, 0), Check.BAD);
        Twin.refused("grown: bad, no land", Made::landless, g -> g.grown(1, 3), Check.BAD);
        Twin.refused("net: bad, no land", Made::landless, g -> g.net(3), Check.BAD);
        Twin.refused("net: bad, no land", Made::landless, g -> g.net(-1), Check.BAD);
        Twin.refused("rest: bad, no land", Made::landless, g -> g.rest(-2), Check.BAD);
        Twin.refused("reform: bad, no land", Made::landless, g -> g.reform(0), Check.BAD);
        Twin.refused("reform: bad, no land", Made::landless, g -> g.reform(11), Check.BAD);
        Twin.refused("image: bad, no land", Made::landless, g -> g.image(2), Check.BAD);
        Twin.refused("restore: bad, none", Made::landless, g -> g.restore(2), Check.BAD);
        Twin.refused("restore: bad, none", Made::landless, g -> g.restore(-1), Check.BAD);
        Twin.refused("as: bad, kind", Made::rich, g -> g.as(0, 7), Check.BAD);
        Twin.refused("as: bad, kind", Made::rich, g -> g.as(6, 6), Check.BAD);
    }

    /** Of several findings the first in time: NULL, then STORE, then PLACE. */
    private static void findingsInTime() {
        Twin.refused("set: null, place", Made::rich, g -> g.set(7, -1, 0), Check.NULL);
        Twin.refused("set: null, place", Made::rich, g -> g.set(7, 40, 0), Check.NULL);
        Twin.refused("copy: null, place", Made::rich, g -> g.copy(0, -1, 7, 0, -1), Check.NULL);
        Twin.refused("copy: null, store, place", Made::rich, g -> g.copy(7, 0, 1, 0, 41), Check.NULL);
        Twin.refused("copy: store, place of i", Made::rich, g -> g.copy(0, -1, 1, 0, 0), Check.STORE);
        Twin.refused("copy: store, place of j", Made::rich, g -> g.copy(0, 0, 2, 10, 0), Check.STORE);
        Twin.refused("copy: store, place of n", Made::rich, g -> g.copy(1, 0, 2, 0, -1), Check.STORE);
        Twin.refused("debts: null, place", Made::rich, g -> g.debts(7, -1, 10), Check.NULL);
        Twin.refused("debts: null, full", Made::crowded, g -> g.debts(7, 0, 10), Check.NULL);
        Twin.refused("debts: place, full", Made::crowded, g -> g.debts(0, 11, 10), Check.PLACE);
        Twin.refused("debts: null, no land", Made::landless, g -> g.debts(7, 0, 1), Check.NULL);
        Twin.refused("debts: place, no land", Made::landless, g -> g.debts(0, 38, 1), Check.PLACE);
    }

    /** debts() alone looks at its ITEMS behind its findings, and at the room behind its ITEMS. */
    private static void itemsBehindFindings() {
        Twin.refused("debts: place, bad item", Made::rich, g -> g.debts(0, 38, 1), Check.PLACE);
        // Rows that begin at 1: who owes 1, whom 7, sum 5; at 2: who owes 7, whom 5, sum 1; the last row ends in items of 0.
        Twin.refused("debts: bad item in the last row", Made::rich, g -> g.debts(0, 37, 1), Check.BAD);
        Twin.refused("debts: bad item, full", Made::crowded, g -> g.debts(0, 37, 1), Check.BAD);
        Twin.refused("debts: bad item in the last row of ten, full", Made::crowded, g -> g.debts(0, 10, 10), Check.BAD);
        Twin.refused("debts: bad item in the last row of ten", Made::rich, g -> g.debts(0, 10, 10), Check.BAD);
        SeizedGoods g = new SeizedGoods();
        Made.rich(g);
        Check.due("rows that begin at 1", g.debts(0, 1, 1), 7);
        Check.due("rows that begin at 2", g.debts(0, 2, 1), 8);
    }
}
