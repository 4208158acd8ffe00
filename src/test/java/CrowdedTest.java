import java.util.Map;
import java.util.Random;
import java.util.TreeMap;

/**
 * All promises: random runs as in PlainTest, but in lands full of men where most calls can be answered: debts come from
 * sheets that hold them, goods are seized where that is lawful, images are kept and come back. How often each call was
 * answered, not refused, is counted, so that the runs cannot become thin unseen.
 */
public final class CrowdedTest {
    private static final int RUNS = 1500;
    /** One step makes at most some fifty calls: a run stays under the 512 calls of an object. */
    private static final int CALLS = 440;
    private static final int BAD = Check.BAD, STORE = Check.STORE, FAULTS = -1000100;
    private static final String[] ENOUGH = {"sheet", "set", "copy", "drop", "land", "fault", "later", "goes", "man", "law",
        "pact", "debt", "debts", "ask", "letter", "pay", "claim", "may", "seize", "bred", "swear", "says", "grown", "net",
        "way", "opened", "shut", "dead", "owes", "rest", "has", "holds", "reform", "image", "restore", "kind", "as", "asks",
        "trace", "count", "status"};
    private static final int LEAST_ANSWERED = 300;
    private static final Map<String, Integer> ANSWERED = new TreeMap<>();
    private final Random random;
    private final SeizedGoods goods = new SeizedGoods();
    private final Plain plain = new Plain();
    private final String run;
    private int made;

    private CrowdedTest(int seed) {
        random = new Random(seed);
        run = "run " + seed + ": ";
    }

    /** Two numbers, if there are any, are the first seed and the one behind the last. */
    public static void main(String[] args) {
        int first = args.length == 2 ? Integer.parseInt(args[0]) : 0;
        int behind = args.length == 2 ? Integer.parseInt(args[1]) : RUNS;
        for (int seed = first; seed < behind; seed++) {
            new CrowdedTest(seed).go();
        }
        for (String call : ENOUGH) {
            int answered = ANSWERED.getOrDefault(call, 0);
            Check.dueTrue(call + " was answered " + answered + " times", answered >= LEAST_ANSWERED);
        }
        Check.end();
    }

    private void go() {
        land(text());
        while (made < CALLS) {
            step();
        }
        Check.dueTrue(run + made + " calls are within the 512", made <= 512);
    }

    private int due(String call, int got, int want) {
        made++;
        Check.due(run + call, got, want);
        boolean isRefused = want <= BAD && want >= STORE || want <= FAULTS;
        boolean isNothing = want == Check.NONE && !call.equals("seize") && !call.equals("swear");
        if (!isRefused && !isNothing) {
            ANSWERED.merge(call, 1, Integer::sum);
        }
        return want;
    }

    private boolean oneIn(int n) {
        return random.nextInt(n) == 0;
    }

    private int upTo(int n) {
        return random.nextInt(Math.max(1, n));
    }

    private int town() {
        return upTo(plain.count(1));
    }

    private int man() {
        return upTo(plain.count(2));
    }

    private int claim() {
        return upTo(plain.count(6));
    }

    private int sum() {
        switch (random.nextInt(4)) {
            case 0: return 1 + random.nextInt(4);
            case 1: return 1 + random.nextInt(999);
            default: return 10 * (1 + random.nextInt(6));
        }
    }

    // ---- texts

    private String blank() {
        String[] blanks = {"", "", "", "", " ", "\n", " \n "};
        return blanks[random.nextInt(blanks.length)];
    }

    private String number(int n) {
        String figures = oneIn(12) ? "00" + n : String.valueOf(n);
        return " " + figures.substring(Math.max(0, figures.length() - 3));
    }

    private String row(String word, int... numbers) {
        StringBuilder row = new StringBuilder(blank()).append(word);
        for (int n : numbers) {
            row.append(number(n));
        }
        return row.append(blank()).append(';').toString();
    }

    private String text() {
        String text = longText();
        for (int tries = 0; tries < 100 && text.length() > 500; tries++) {
            text = longText();
        }
        return text;
    }

    private String longText() {
        StringBuilder text = new StringBuilder();
        int towns = 2 + random.nextInt(oneIn(3) ? 5 : 2);
        int men = 3 + random.nextInt(10);
        for (int k = 0; k < towns; k++) {
            text.append(row("town", random.nextInt(100)));
        }
        for (int k = 0; k < men; k++) {
            text.append(row("man", random.nextInt(towns)));
        }
        for (int k = 0; k < 4 + random.nextInt(9); k++) {
            text.append(pair("road", towns));
        }
        int[] mosts = {1, 10, 33, 50, 99, 100};
        for (int k = random.nextInt(7); k > 0; k--) {
            text.append(row("law", random.nextInt(towns), oneIn(2) ? 0 : random.nextInt(4), mosts[random.nextInt(6)],
                oneIn(4) ? 0 : 1, oneIn(4) ? 1 : 0));
        }
        for (int k = random.nextInt(5); k > 0; k--) {
            int from = random.nextInt(20);
            text.append(row("fair", random.nextInt(towns), from, from + random.nextInt(4)));
        }
        for (int k = random.nextInt(3); k > 0; k--) {
            text.append(pair("pact", towns));
        }
        return text.append(blank()).toString();
    }

    private String pair(String word, int towns) {
        int a = random.nextInt(towns);
        return row(word, a, (a + 1 + random.nextInt(towns - 1)) % towns);
    }

    private void land(String text) {
        for (int at = 0; at < text.length(); ) {
            int n = Math.min(oneIn(9) ? 1 + random.nextInt(8) : 8, text.length() - at);
            long w = random.nextLong();
            for (int k = 0; k < n; k++) {
                w = w << 8 | text.charAt(at + k);
            }
            due("feed", goods.feed(w, n), plain.feed(w, n));
            at += n;
        }
        due("land", goods.land(), plain.land());
        due("fault", goods.fault(), plain.fault());
    }

    // ---- steps

    private void step() {
        int which = random.nextInt(100);
        if (which < 6) {
            sheetStep();
        } else if (which < 30) {
            landStep();
        } else if (which < 65) {
            claimStep();
        } else if (which < 82) {
            foretoldStep();
        } else {
            askedStep();
        }
    }

    private void sheetStep() {
        switch (random.nextInt(6)) {
            case 0: case 1: rowsOfDebts(); break;
            case 2: {
                int sheet = upTo(4);
                due("drop", goods.drop(sheet), plain.drop(sheet));
                break;
            }
            default: twoSheets();
        }
        due("status", goods.status(), plain.status());
        due("count", goods.count(0), plain.count(0));
    }

    /** Rows come by set() into the end of a sheet, or of one that they are copied from. */
    private void rowsOfDebts() {
        int lane = random.nextInt(3);
        int rows = 1 + random.nextInt(3);
        int ahead = random.nextInt(4);
        int from = upTo(4);
        int to = upTo(4);
        int items = ahead + 3 * rows;
        due("sheet", goods.sheet(from, lane, items), plain.sheet(from, lane, items));
        for (int k = 0; k < rows; k++) {
            int at = ahead + 3 * k;
            put(from, at, man());
            put(from, at + 1, man());
            put(from, at + 2, sum());
        }
        if (to != from) {
            due("sheet", goods.sheet(to, lane, items), plain.sheet(to, lane, items));
            due("copy", goods.copy(from, 0, to, 0, items), plain.copy(from, 0, to, 0, items));
        }
        due("debts", goods.debts(to, ahead, rows), plain.debts(to, ahead, rows));
        int last = plain.count(6) - 1;
        for (int what = 0; what < 3; what++) {
            due("claim", goods.claim(last, what), plain.claim(last, what));
        }
    }

    private void put(int sheet, int i, int v) {
        due("set", goods.set(sheet, i, v), plain.set(sheet, i, v));
    }

    /** What lies over itself is copied as it was ahead: seen by the debts that rows of it tell. */
    private void twoSheets() {
        int sheet = upTo(4);
        int lane = random.nextInt(3);
        due("sheet", goods.sheet(sheet, lane, 12), plain.sheet(sheet, lane, 12));
        int[] row = {man(), man(), 1 + random.nextInt(99), man(), man(), 1 + random.nextInt(99)};
        for (int k = 0; k < row.length; k++) {
            put(sheet, k, row[k]);
        }
        int by = random.nextInt(7);
        due("copy", goods.copy(sheet, 0, sheet, by, 6), plain.copy(sheet, 0, sheet, by, 6));
        int at = oneIn(3) ? 0 : by + 3 * random.nextInt(2);
        due("debts", goods.debts(sheet, at, 1), plain.debts(sheet, at, 1));
    }

    private void landStep() {
        int man = man();
        int town = town();
        switch (random.nextInt(20)) {
            case 0: if (oneIn(6)) { land(text()); } break;
            case 1: if (oneIn(3)) { land(oneIn(2) ? "town 7;man 0;man 1;" : "town 7"); } break;
            case 2: case 3: {
                int n = oneIn(25) ? random.nextInt(101) : random.nextInt(3);
                due("later", goods.later(n), plain.later(n));
                break;
            }
            case 4: {
                int what = random.nextInt(3);
                due("man", goods.man(man, what), plain.man(man, what));
                break;
            }
            case 5: {
                int what = random.nextInt(5);
                due("law", goods.law(town, what), plain.law(town, what));
                break;
            }
            case 6: {
                int other = town();
                int is = oneIn(3) ? 1 : 0;
                due("pact", goods.pact(town, other, is), plain.pact(town, other, is));
                break;
            }
            default: due("goes", goods.goes(man, town), plain.goes(man, town));
        }
    }

    private void claimStep() {
        int c = claim();
        int man = man();
        int sum = sum();
        switch (random.nextInt(14)) {
            case 0: case 1: {
                int whom = man();
                // With claims all taken nothing could be bred: room is left for that, most of the time.
                if (plain.count(6) < 14 || oneIn(8)) {
                    due("debt", goods.debt(man, whom, sum), plain.debt(man, whom, sum));
                }
                break;
            }
            case 2: case 3: due("ask", goods.ask(c), plain.ask(c)); break;
            case 4: case 5: {
                int n = oneIn(9) ? random.nextInt(100) : random.nextInt(5);
                due("letter", goods.letter(c, sum, n), plain.letter(c, sum, n));
                break;
            }
            case 6: if (oneIn(4)) { due("pay", goods.pay(c, sum), plain.pay(c, sum)); } break;
            case 7: {
                int what = random.nextInt(9);
                due("claim", goods.claim(c, what), plain.claim(c, what));
                break;
            }
            case 8: swear(c); break;
            case 9: {
                int what = random.nextInt(2);
                due("may", goods.may(c, man, what), plain.may(c, man, what));
                break;
            }
            default: seize();
        }
    }

    private void swear(int c) {
        int town = town();
        int paid = random.nextInt(2);
        due("swear", goods.swear(town, c, paid), plain.swear(town, c, paid));
        due("says", goods.says(c), plain.says(c));
    }

    /** Of all that is lawful one, from the least to one above the most; nothing, if nothing is. */
    private void seize() {
        int claims = plain.count(6);
        int men = plain.count(2);
        int first = upTo(claims * men);
        for (int k = 0; k < claims * men; k++) {
            int c = (first + k) % (claims * men) / men;
            int man = (first + k) % men;
            int most = plain.may(c, man, 1);
            if (most > 0) {
                due("may", goods.may(c, man, 1), most);
                int[] sums = {1, most, most, most + 1, 1 + random.nextInt(most)};
                int sum = sums[random.nextInt(sums.length)];
                if (due("seize", goods.seize(c, man, sum), plain.seize(c, man, sum)) >= 0) {
                    ANSWERED.merge("bred", 1, Integer::sum);
                }
                lookBehindSeizure(c);
                return;
            }
        }
    }

    private void lookBehindSeizure(int c) {
        int last = plain.count(6) - 1;
        due("claim", goods.claim(c, 3), plain.claim(c, 3));
        due("claim", goods.claim(c, 7), plain.claim(c, 7));
        due("claim", goods.claim(last, 0), plain.claim(last, 0));
        due("claim", goods.claim(last, 8), plain.claim(last, 8));
        due("count", goods.count(8), plain.count(8));
    }

    private void foretoldStep() {
        int man = man();
        int town = town();
        int other = town();
        int what = random.nextInt(3);
        switch (random.nextInt(16)) {
            case 0: case 1: {
                int n = 1 + random.nextInt(oneIn(4) ? 30 : 4);
                due("grown", goods.grown(n, what), plain.grown(n, what));
                break;
            }
            case 2: due("net", goods.net(what), plain.net(what)); break;
            case 3: due("way", goods.way(man, town), plain.way(man, town)); break;
            case 4: due("opened", goods.opened(man, town), plain.opened(man, town)); break;
            case 5: due("shut", goods.shut(town, other), plain.shut(town, other)); break;
            case 6: due("dead", goods.dead(), plain.dead()); break;
            case 7: due("owes", goods.owes(town), plain.owes(town)); break;
            case 8: rest(); break;
            case 9: {
                int rows = (int) Math.pow(3, plain.count(1));
                int row = oneIn(20) ? rows : random.nextInt(rows);
                due("has", goods.has(town, row), plain.has(town, row));
                break;
            }
            case 10: {
                int w = random.nextInt(100);
                due("holds", goods.holds(town, other, w), plain.holds(town, other, w));
                break;
            }
            case 11: {
                int n = 1 + random.nextInt(10);
                if (oneIn(6)) {
                    due("reform", goods.reform(n), plain.reform(n));
                }
                break;
            }
            case 12: case 13: {
                int k = random.nextInt(2);
                if (oneIn(2)) {
                    due("image", goods.image(k), plain.image(k));
                }
                break;
            }
            default: restore();
        }
    }

    private void rest() {
        if (plain.count(1) < 5) {
            int many = due("rest", goods.rest(-1), plain.rest(-1));
            int i = upTo(many);
            due("rest", goods.rest(i), plain.rest(i));
            due("rest", goods.rest(many), plain.rest(many));
        }
    }

    private void restore() {
        int k = random.nextInt(2);
        if (oneIn(5)) {
            due("restore", goods.restore(k), plain.restore(k));
            for (int what = 0; what <= 10; what++) {
                due("count", goods.count(what), plain.count(what));
            }
        }
    }

    private void askedStep() {
        int c = claim();
        switch (random.nextInt(4)) {
            case 0: due("kind", goods.kind(c), plain.kind(c)); break;
            case 1: {
                int kind = random.nextInt(7);
                due("as", goods.as(c, kind), plain.as(c, kind));
                due("status", goods.status(), plain.status());
                break;
            }
            case 2: {
                int what = random.nextInt(2);
                due("asks", goods.asks(c, what), plain.asks(c, what));
                for (int i = 0; i < 7; i++) {
                    due("trace", goods.trace(i), plain.trace(i));
                }
                break;
            }
            default: {
                int what = random.nextInt(11);
                due("count", goods.count(what), plain.count(what));
            }
        }
    }
}
