import java.util.Random;

/** All promises: random runs of calls, each answer held against that of Plain. */
public final class PlainTest {
    private static final int RUNS = 2500;
    /** All of a run, with a land more and a look at all, stays under the 512 calls of an object. */
    private static final int CALLS = 260;
    private final Random random;
    private final SeizedGoods goods = new SeizedGoods();
    private final Plain plain = new Plain();
    private final String run;
    private int made;

    private PlainTest(int seed) {
        random = new Random(seed);
        run = "run " + seed + ": ";
    }

    public static void main(String[] args) {
        for (int seed = 0; seed < RUNS; seed++) {
            PlainTest test = new PlainTest(seed);
            test.land();
            while (test.made < CALLS) {
                test.call();
            }
            test.lookAtAll();
            Check.dueTrue(test.run + test.made + " calls are within the 512", test.made <= 512);
        }
        Check.end();
    }

    private void due(String call, int got, int want) {
        made++;
        Check.due(run + call, got, want);
    }

    /** A number from 0 to below n, now and then one beyond. */
    private int upTo(int n) {
        return random.nextInt(25) == 0 ? random.nextInt(n + 6) - 3 : random.nextInt(Math.max(1, n));
    }

    private int town() {
        return upTo(plain.count(1));
    }

    private int man() {
        return upTo(plain.count(2));
    }

    private int claim() {
        return upTo(plain.count(6));
    }

    private int sum() {
        return random.nextInt(20) == 0 ? random.nextInt(1010) - 5 : 1 + random.nextInt(40);
    }

    private String text() {
        StringBuilder text = new StringBuilder();
        int towns = 1 + random.nextInt(6);
        for (int k = 0; k < towns; k++) {
            text.append("town ").append(random.nextInt(100)).append(';');
        }
        for (int k = random.nextInt(10); k > 0; k--) {
            text.append("man ").append(random.nextInt(towns)).append(';');
        }
        for (int k = random.nextInt(10); k > 0 && towns > 1; k--) {
            text.append("road ").append(two(towns)).append(';');
        }
        for (int k = random.nextInt(8); k > 0; k--) {
            text.append("law ").append(random.nextInt(towns)).append(' ').append(random.nextInt(3) * random.nextInt(2))
                .append(' ').append(1 + random.nextInt(100)).append(' ').append(random.nextInt(2))
                .append(' ').append(random.nextInt(5) / 4).append(';');
        }
        for (int k = random.nextInt(3); k > 0; k--) {
            int from = random.nextInt(20);
            text.append("fair ").append(random.nextInt(towns)).append(' ').append(from).append(' ')
                .append(from + random.nextInt(5)).append(';');
        }
        for (int k = random.nextInt(3); k > 0 && towns > 1; k--) {
            text.append("pact ").append(two(towns)).append(';');
        }
        return text.toString();
    }

    private String two(int towns) {
        int a = random.nextInt(towns);
        return a + " " + (a + 1 + random.nextInt(towns - 1)) % towns;
    }

    /** A text with one byte more, less, or another one. */
    private String spoilt(String text) {
        int at = random.nextInt(text.length());
        String signs = " \n;0123456789atownmrdlwfip#\u00ff";
        String sign = signs.substring(random.nextInt(signs.length())).substring(0, 1);
        switch (random.nextInt(3)) {
            case 0: return text.substring(0, at) + text.substring(at + 1);
            case 1: return text.substring(0, at) + sign + text.substring(at);
            default: return text.substring(0, at) + sign + text.substring(at + 1);
        }
    }

    private void land() {
        String text = text();
        // Without a land most calls are BAD: so most texts are left as they are.
        for (int k = random.nextInt(3) == 0 ? 1 + random.nextInt(2) : 0; k > 0; k--) {
            text = spoilt(text);
        }
        for (int at = 0; at < text.length(); ) {
            int n = Math.min(1 + random.nextInt(8), text.length() - at);
            long w = random.nextLong();
            for (int k = 0; k < n; k++) {
                w = w << 8 | text.charAt(at + k);
            }
            due("feed", goods.feed(w, n), plain.feed(w, n));
            at += n;
        }
        due("land '" + text + "'", goods.land(), plain.land());
        due("fault", goods.fault(), plain.fault());
    }

    private void call() {
        int which = random.nextInt(100);
        if (which < 8) {
            sheetCall();
        } else if (which < 28) {
            landCall();
        } else if (which < 65) {
            claimCall();
        } else if (which < 80) {
            foretoldCall();
        } else {
            askedCall();
        }
    }

    private void sheetCall() {
        int a = upTo(3);
        int b = upTo(3);
        int i = upTo(12);
        int j = upTo(12);
        int n = upTo(5);
        int v = random.nextInt(3) == 0 ? random.nextInt() : random.nextInt(8);
        switch (random.nextInt(6)) {
            case 0: due("sheet", goods.sheet(a, b, 3 * n), plain.sheet(a, b, 3 * n)); break;
            case 1: due("copy", goods.copy(a, i, b, j, n), plain.copy(a, i, b, j, n)); break;
            case 2: if (n == 0) { due("drop", goods.drop(a), plain.drop(a)); } break;
            case 3: due("debts", goods.debts(a, 3 * j, n), plain.debts(a, 3 * j, n)); break;
            default: due("set", goods.set(a, i, v), plain.set(a, i, v));
        }
        due("status", goods.status(), plain.status());
    }

    private void landCall() {
        int man = man();
        int town = town();
        int what = upTo(5);
        int other = town();
        int days = random.nextInt(30) == 0 ? random.nextInt(110) - 3 : random.nextInt(3);
        switch (random.nextInt(16)) {
            case 0: if (random.nextInt(15) == 0) { land(); } break;
            case 1: case 2: due("later", goods.later(days), plain.later(days)); break;
            case 3: due("man", goods.man(man, what), plain.man(man, what)); break;
            case 4: due("law", goods.law(town, what), plain.law(town, what)); break;
            case 5: {
                int is = upTo(2) * random.nextInt(2);
                due("pact", goods.pact(town, other, is), plain.pact(town, other, is));
                break;
            }
            default: due("goes", goods.goes(man, town), plain.goes(man, town));
        }
    }

    private void claimCall() {
        int c = claim();
        int man = man();
        int sum = sum();
        switch (random.nextInt(12)) {
            case 0: case 1: {
                int whom = man();
                due("debt", goods.debt(man, whom, sum), plain.debt(man, whom, sum));
                break;
            }
            case 2: due("ask", goods.ask(c), plain.ask(c)); break;
            case 3: {
                int n = random.nextInt(15) == 0 ? random.nextInt(105) - 3 : random.nextInt(5);
                due("letter", goods.letter(c, sum, n), plain.letter(c, sum, n));
                break;
            }
            case 4: if (random.nextInt(2) == 0) { due("pay", goods.pay(c, sum), plain.pay(c, sum)); } break;
            case 5: {
                int what = upTo(9);
                due("claim", goods.claim(c, what), plain.claim(c, what));
                break;
            }
            case 6: {
                int town = town();
                int paid = upTo(2);
                due("swear", goods.swear(town, c, paid), plain.swear(town, c, paid));
                due("says", goods.says(c), plain.says(c));
                break;
            }
            case 7: case 8: {
                int what = upTo(2);
                due("may", goods.may(c, man, what), plain.may(c, man, what));
                break;
            }
            default: {
                int most = plain.may(c, man, 1);
                int seized = random.nextInt(4) == 0 || most < 0 ? sum : 1 + random.nextInt(most);
                due("seize", goods.seize(c, man, seized), plain.seize(c, man, seized));
            }
        }
    }

    private void foretoldCall() {
        int man = man();
        int town = town();
        int other = town();
        int what = upTo(3);
        switch (random.nextInt(12)) {
            case 0: case 1: {
                int n = upTo(7);
                due("grown", goods.grown(n, what), plain.grown(n, what));
                break;
            }
            case 2: due("net", goods.net(what), plain.net(what)); break;
            case 3: due("way", goods.way(man, town), plain.way(man, town)); break;
            case 4: due("opened", goods.opened(man, town), plain.opened(man, town)); break;
            case 5: due("shut", goods.shut(town, other), plain.shut(town, other)); break;
            case 6: due("dead", goods.dead(), plain.dead()); break;
            case 7: due("owes", goods.owes(town), plain.owes(town)); break;
            case 8: {
                int row = random.nextInt(740) / (1 + random.nextInt(60)) - random.nextInt(2);
                due("has", goods.has(town, row), plain.has(town, row));
                break;
            }
            case 9: {
                int w = upTo(100);
                due("holds", goods.holds(town, other, w), plain.holds(town, other, w));
                break;
            }
            case 10: {
                int k = upTo(2);
                due("image", goods.image(k), plain.image(k));
                break;
            }
            default: {
                int k = upTo(2);
                if (random.nextInt(3) == 0) {
                    due("restore", goods.restore(k), plain.restore(k));
                }
            }
        }
    }

    private void askedCall() {
        int c = claim();
        int what = upTo(2);
        int kind = upTo(7);
        int i = upTo(17);
        int thing = upTo(11);
        switch (random.nextInt(5)) {
            case 0: due("kind", goods.kind(c), plain.kind(c)); break;
            case 1:
                due("as", goods.as(c, kind), plain.as(c, kind));
                due("status", goods.status(), plain.status());
                break;
            case 2: due("asks", goods.asks(c, what), plain.asks(c, what)); break;
            case 3: due("trace", goods.trace(i), plain.trace(i)); break;
            default: due("count", goods.count(thing), plain.count(thing));
        }
    }

    private void lookAtAll() {
        for (int what = 0; what <= 10; what++) {
            due("count " + what, goods.count(what), plain.count(what));
        }
        if (random.nextInt(2) == 0) {
            lookAtClaims();
        } else {
            lookAhead();
        }
    }

    private void lookAtClaims() {
        for (int claim = 0; claim < Math.min(12, plain.count(6)); claim++) {
            for (int what = 0; what <= 8; what++) {
                due("claim", goods.claim(claim, what), plain.claim(claim, what));
            }
        }
    }

    private void lookAhead() {
        for (int man = 0; man < plain.count(2); man++) {
            for (int town = 0; town < plain.count(1); town++) {
                due("way", goods.way(man, town), plain.way(man, town));
                due("opened", goods.opened(man, town), plain.opened(man, town));
            }
        }
        for (int what = 0; what < 3; what++) {
            due("net", goods.net(what), plain.net(what));
            due("grown", goods.grown(30, what), plain.grown(30, what));
        }
        if (random.nextInt(10) == 0) {
            int days = 1 + random.nextInt(10);
            due("reform", goods.reform(days), plain.reform(days));
        }
        if (plain.count(1) < 5) {
            for (int i = -1; i < 5; i++) {
                due("rest", goods.rest(i), plain.rest(i));
            }
        }
    }
}
