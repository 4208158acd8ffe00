/** Promises 9 to 13: days, roads, men, laws and pacts at their bounds. Numbers that are BAD are in RefusalsTest. */
public final class BoundsOfLandsTest {
    public static void main(String[] args) {
        daysUpToTheLast();
        daysBeyondTheLast();
        daysOfNone();
        goesOnlyByRoads();
        goesFromWhereHeIs();
        goesChangesNobodyElse();
        balanceOfEachSide();
        balanceOfLeastAndGreatest();
        lawOfEachTown();
        pactWhatItWas();
        pactOfAllPairs();
        pactsTold();
        pactsBeyondTwelve();
        Check.end();
    }

    /** A land on a day. */
    private static SeizedGoods on(int day) {
        SeizedGoods g = Check.landed("town 1;");
        for (int left = day; left > 0; left -= Math.min(100, left)) {
            g.later(Math.min(100, left));
        }
        Check.due("day", g.count(9), day);
        return g;
    }

    // n DAYS (0 to 100) go by: the DAY. BAD: also beyond 999
    private static void daysUpToTheLast() {
        for (int n : new int[] {0, 1, 99, 100}) {
            Check.due("from day 0", on(0).later(n), n);
            Check.due("to day 999", on(999 - n).later(n), 999);
            Check.due("to day 998", on(998 - n).later(n), 998);
        }
        SeizedGoods g = on(0);
        for (int day = 1; day <= 400; day++) {
            Check.due("a day", g.later(1), day);
        }
    }

    private static void daysBeyondTheLast() {
        for (int n : new int[] {1, 2, 99, 100}) {
            for (int beyond = 1; beyond <= n; beyond += n - 1 > 0 ? n - 1 : 1) {
                int day = 999 + beyond - n;
                if (day > 999) {
                    continue;
                }
                SeizedGoods g = on(day);
                Check.due(n + " from " + day, g.later(n), Check.BAD);
                Check.due("the day stays", g.count(9), day);
                Check.due("up to the last", g.later(999 - day), 999);
            }
        }
        SeizedGoods last = on(999);
        for (int n : new int[] {1, 2, 100, 101, Integer.MAX_VALUE, Integer.MIN_VALUE, -1}) {
            Check.due("beyond the last", last.later(n), Check.BAD);
        }
        Check.due("the last stays", last.later(0), 999);
        Twin.Steps late = g -> {
            Made.rich(g);
            for (int k = 0; k < 9; k++) {
                g.later(100);
            }
            g.later(96);
        };
        Twin.refused("beyond 999", late, g -> g.later(1), Check.BAD);
        Twin.refused("far beyond 999", late, g -> g.later(100), Check.BAD);
    }

    private static void daysOfNone() {
        SeizedGoods g = on(0);
        Check.due("0", g.later(0), 0);
        Check.due("0", g.later(0), 0);
        Check.due("0 at the last", on(999).later(0), 999);
        Check.due("no land", new SeizedGoods().later(0), Check.STATE);
    }

    // A MAN goes to a TOWN by a ROAD: 1. STATE: there is no ROAD from where he is AT.
    private static void goesOnlyByRoads() {
        String text = "town 1;".repeat(6) + "man 0;road 0 5;road 5 1;road 2 3;";
        SeizedGoods g = Check.landed(text);
        for (int town = 0; town < 5; town++) {
            Check.due("no road from 0 to " + town, g.goes(0, town), Check.STATE);
            Check.due("he stays", g.man(0, 1), 0);
        }
        Check.due("to the last town", g.goes(0, 5), 1);
        Check.due("he is there", g.man(0, 1), 5);
        Check.due("not two roads at once", Check.landed(text).goes(0, 1), Check.STATE);
        // Not a road of a land that is no more.
        Check.due("another land", Check.read(g, "town 1;".repeat(6) + "man 0;"), 6);
        for (int town = 0; town < 6; town++) {
            Check.due("no road at all", g.goes(0, town), Check.STATE);
        }
    }

    private static void goesFromWhereHeIs() {
        SeizedGoods g = Check.landed("town 1;town 1;town 1;man 0;road 0 1;road 1 2;");
        Check.due("0 to 1", g.goes(0, 1), 1);
        Check.due("to where he is", g.goes(0, 1), Check.STATE);
        Check.due("1 to 2, though he is of 0", g.goes(0, 2), 1);
        Check.due("no road from 2 to 0, though he is of it", g.goes(0, 0), Check.STATE);
        Check.due("2 to 1", g.goes(0, 1), 1);
        Check.due("1 to 0", g.goes(0, 0), 1);
        // Neither a pact nor a debt is in the way: he goes even where he can be seized.
        SeizedGoods h = Check.landed("town 1;town 1;man 0;man 1;road 0 1;law 1 0 100 1 0;");
        h.debt(0, 1, 5);
        Check.due("cannot be there", h.way(0, 1), Check.NONE);
        Check.due("and goes there", h.goes(0, 1), 1);
    }

    private static void goesChangesNobodyElse() {
        SeizedGoods g = Check.landed("town 1;town 1;" + "man 0;".repeat(12) + "road 0 1;");
        for (int man : new int[] {0, 11}) {
            g.goes(man, 1);
        }
        for (int man = 0; man < 12; man++) {
            Check.due("of", g.man(man, 0), 0);
            Check.due("at", g.man(man, 1), man == 0 || man == 11 ? 1 : 0);
        }
    }

    // BALANCE of a MAN: LEFT of all CLAIMS that he has, less LEFT of all that he owes.
    private static void balanceOfEachSide() {
        SeizedGoods g = Check.landed("town 1;man 0;man 0;man 0;");
        for (int man = 0; man < 3; man++) {
            Check.due("no claims", g.man(man, 2), 0);
        }
        g.debt(0, 1, 10);
        balances(g, -10, 10, 0);
        g.debt(1, 0, 10);
        balances(g, 0, 0, 0);
        g.debt(2, 0, 1);
        balances(g, 1, 0, -1);
        g.pay(0, 9);
        balances(g, 10, -9, -1);
        g.pay(0, 1);
        balances(g, 11, -10, -1);
        g.pay(1, 999);
        g.pay(2, 999);
        balances(g, 0, 0, 0);
    }

    private static void balances(SeizedGoods g, int... due) {
        for (int man = 0; man < due.length; man++) {
            Check.due("balance of " + man, g.man(man, 2), due[man]);
        }
    }

    private static void balanceOfLeastAndGreatest() {
        SeizedGoods g = Check.landed("town 1;man 0;man 0;");
        for (int claim = 0; claim < 24; claim++) {
            g.debt(0, 1, 999);
        }
        balances(g, -24 * 999, 24 * 999);
        Check.due("coin", g.net(0), 24 * 999);
    }

    private static void lawOfEachTown() {
        SeizedGoods g = Check.landed("town 0;town 99;town 50;town 1;town 2;town 98;law 0 0 1 0 0;law 5 3 100 1 1;");
        int[][] due = {{0, 1, 0, 0, 0}, {1, 100, 1, 0, 99}, {1, 100, 1, 0, 50}, {1, 100, 1, 0, 1}, {1, 100, 1, 0, 2},
            {3, 100, 1, 1, 98}};
        for (int town = 0; town < 6; town++) {
            for (int what = 0; what < 5; what++) {
                Check.due("law " + what + " of " + town, g.law(town, what), due[town][what]);
            }
        }
    }

    // Whether two TOWNS have a PACT from now on (1, 0): what it was.
    private static void pactWhatItWas() {
        SeizedGoods g = Check.landed("town 1;town 1;");
        int[] is = {0, 1, 1, 0, 0, 1};
        int[] was = {0, 0, 1, 1, 0, 0};
        for (int k = 0; k < is.length; k++) {
            Check.due("step " + k, g.pact(k & 1, 1 - (k & 1), is[k]), was[k]);
            Check.due("count " + k, g.count(5), is[k]);
        }
    }

    private static void pactOfAllPairs() {
        for (int a = 0; a < 6; a++) {
            for (int b = 0; b < 6; b++) {
                if (a != b) {
                    SeizedGoods g = Check.landed("town 1;".repeat(6));
                    g.pact(a, b, 1);
                    for (int c = 0; c < 6; c++) {
                        for (int d = 0; d < 6; d++) {
                            boolean isThis = c == a && d == b || c == b && d == a;
                            Check.due("pact " + c + " " + d, c == d ? 0 : g.pact(c, d, isThis ? 1 : 0), isThis ? 1 : 0);
                        }
                    }
                    Check.due("one", g.count(5), 1);
                }
            }
        }
    }

    private static void pactsTold() {
        SeizedGoods g = Check.landed("town 1;town 1;town 1;pact 0 1;pact 1 0;pact 0 1;");
        Check.due("told three times is one", g.count(5), 1);
        Check.due("no more", g.pact(1, 0, 0), 1);
        Check.due("at all", g.pact(0, 1, 0), 0);
        Check.due("none", g.count(5), 0);
    }

    /** Twelve are the most of a text; by calls all pairs may have one. */
    private static void pactsBeyondTwelve() {
        SeizedGoods g = Check.landed("town 1;".repeat(6));
        int pacts = 0;
        for (int a = 0; a < 6; a++) {
            for (int b = a + 1; b < 6; b++) {
                Check.due("pact", g.pact(a, b, 1), 0);
                pacts++;
                Check.due("so many", g.count(5), pacts);
            }
        }
        Check.due("all pairs", pacts, 15);
    }
}
