/** Terms 3 and promises 24 to 36: what is foretold, and images, at their bounds. */
public final class BoundsOfForetoldTest {
    private static final String SIX = "town 10;town 11;town 12;town 13;town 14;town 15;man 0;man 1;man 2;man 3;man 4;man 5;";

    public static void main(String[] args) {
        grownOfNothing();
        grownByOneToThirtyDays();
        grownFromToday();
        grownUpToTheLastDayOfALetter();
        grownByTheFirstMan();
        grownByClaimsInOrder();
        grownWithRoomForOne();
        grownBeyondTheLastDay();
        grownSeizedInTheseDays();
        foretellingChangesNothing();
        netOfNothing();
        coin();
        outOfFirstAndLastMan();
        paymentsUpToEleven();
        wayWhereHeIs();
        wayUpToFiveRoads();
        wayByTownsWhereHeCanBe();
        openedWhereHeIs();
        openedByNoRoads();
        openedOfAllClaims();
        openedFewestThenLeast();
        openedNotWhereHeSetsOut();
        shutForANewMan();
        deadUpToAllPairs();
        owesOfNothingAndAll();
        restOfOneTown();
        restOfSixTowns();
        restOfTies();
        restOfHalves();
        hasOfEachRow();
        hasCuts();
        holdsJustSo();
        holdsOfBothSides();
        reformOfNothing();
        reformByOneToTenDays();
        reformOfEachMost();
        imagesOfNone();
        imagesAreTwo();
        imageInPlaceOfOne();
        imageOfAll();
        imageOfNoMen();
        imageIsNotTheLand();
        restoreLeavesSheetsTapeImages();
        Check.end();
    }

    private static void grown(SeizedGoods g, int days, int claims, int seized, int left) {
        Check.due("claims in " + days, g.grown(days, 0), claims);
        Check.due("seized in " + days, g.grown(days, 1), seized);
        Check.due("left in " + days, g.grown(days, 2), left);
    }

    /** Men 0, 1 of town 0 and man 2 of town 1, who is at town 0; man 0 owes him. */
    private static SeizedGoods seizing(String laws, int sum) {
        SeizedGoods g = Check.landed("town 1;town 1;man 0;man 0;man 1;road 0 1;" + laws);
        g.goes(2, 0);
        g.debt(0, 2, sum);
        return g;
    }

    private static void grownOfNothing() {
        for (String text : new String[] {"town 1;", "town 1;town 1;man 0;man 1;", Made.TEXT}) {
            SeizedGoods g = Check.landed(text);
            grown(g, 1, 0, 0, 0);
            grown(g, 30, 0, 0, 0);
        }
        SeizedGoods paid = seizing("law 0 0 100 1 0;", 5);
        paid.pay(0, 5);
        grown(paid, 30, 1, 0, 0);
        SeizedGoods unlawful = seizing("pact 0 1;", 5);
        grown(unlawful, 30, 1, 0, 5);
    }

    // GROWN by n DAYS (1 to 30): one is seized a day
    private static void grownByOneToThirtyDays() {
        for (int days = 1; days <= 30; days++) {
            grown(seizing("law 0 0 1 1 0;", 50), days, 1, days, 50 - days);
            grown(seizing("law 0 0 1 1 0;", 30), days, 1, days, 30 - days);
            grown(seizing("law 0 0 1 1 0;", 29), days, 1, Math.min(days, 29), Math.max(0, 29 - days));
        }
    }

    /** The first of the days is today. */
    private static void grownFromToday() {
        SeizedGoods today = seizing("law 0 0 1 1 0;fair 0 0 0;", 50);
        grown(today, 1, 1, 0, 50);
        grown(today, 2, 1, 1, 49);
        today.later(1);
        grown(today, 1, 1, 1, 49);
        SeizedGoods tomorrow = seizing("law 0 0 1 1 0;fair 0 1 1;", 50);
        grown(tomorrow, 1, 1, 1, 49);
        grown(tomorrow, 2, 1, 1, 49);
        grown(tomorrow, 3, 1, 2, 48);
        SeizedGoods thirtieth = seizing("law 0 0 1 1 0;fair 0 29 29;", 50);
        grown(thirtieth, 29, 1, 29, 21);
        grown(thirtieth, 30, 1, 29, 21);
        SeizedGoods beyond = seizing("law 0 0 1 1 0;fair 0 30 30;", 50);
        grown(beyond, 30, 1, 30, 20);
    }

    private static void grownUpToTheLastDayOfALetter() {
        SeizedGoods g = seizing("law 0 0 1 1 1;", 50);
        grown(g, 30, 1, 0, 50);
        g.letter(0, 999, 0);
        grown(g, 1, 1, 1, 49);
        grown(g, 2, 1, 1, 49);
        g.letter(0, 999, 28);
        grown(g, 29, 1, 29, 21);
        grown(g, 30, 1, 29, 21);
        g.letter(0, 3, 29);
        grown(g, 3, 1, 3, 47);
        grown(g, 4, 1, 3, 47);
        Check.due("the letter itself is as it was", g.claim(0, 7), 3);
    }

    // of MEN by numbers the first, a SEIZURE of whose goods LACKS nothing
    private static void grownByTheFirstMan() {
        // The one who owes has the least number: none is bred.
        SeizedGoods first = seizing("law 0 0 100 1 0;", 8);
        grown(first, 1, 1, 8, 0);
        // His countryman has the least number: one is bred.
        SeizedGoods second = Check.landed("town 1;town 1;man 0;man 0;man 1;road 0 1;law 0 0 100 1 0;");
        second.goes(2, 0);
        second.debt(1, 2, 8);
        grown(second, 1, 2, 8, 8);
        // Unless it was asked too seldom: then of who owes.
        SeizedGoods asked = Check.landed("town 1;town 1;man 0;man 0;man 1;road 0 1;law 0 1 100 1 0;");
        asked.goes(2, 0);
        asked.debt(1, 2, 8);
        grown(asked, 1, 1, 8, 0);
        asked.ask(0);
        grown(asked, 1, 2, 8, 8);
        // The last of twelve men.
        SeizedGoods last = Check.landed("town 1;town 1;" + "man 1;".repeat(11) + "man 0;road 0 1;law 1 0 100 1 0;");
        last.debt(11, 0, 8);
        grown(last, 1, 1, 0, 8);
        last.goes(11, 1);
        grown(last, 1, 1, 8, 0);
    }

    // for each CLAIM that was there as it began, by numbers: the first gets the last room for one that is bred
    private static void grownByClaimsInOrder() {
        SeizedGoods g = Check.landed("town 1;town 1;man 0;man 0;man 1;road 0 1;law 0 0 100 1 0;");
        g.goes(2, 0);
        for (int claim = 0; claim < 23; claim++) {
            g.debt(1, 2, claim == 0 ? 100 : claim == 22 ? 50 : 1);
        }
        grown(g, 1, 24, 171, 100);
        SeizedGoods other = Check.landed("town 1;town 1;man 0;man 0;man 1;road 0 1;law 0 0 100 1 0;");
        other.goes(2, 0);
        for (int claim = 0; claim < 23; claim++) {
            other.debt(1, 2, claim == 0 ? 50 : claim == 22 ? 100 : 1);
        }
        grown(other, 1, 24, 171, 50);
    }

    private static void grownWithRoomForOne() {
        for (int claims = 1; claims <= 24; claims++) {
            SeizedGoods g = Check.landed("town 1;town 1;man 0;man 0;man 1;road 0 1;law 0 0 100 1 0;");
            g.goes(2, 0);
            for (int claim = 0; claim < claims; claim++) {
                g.debt(1, 2, 2);
            }
            int bred = Math.min(claims, 24 - claims);
            grown(g, 1, claims + bred, 2 * claims, 2 * bred);
            grown(g, 30, claims + bred, 2 * claims, 2 * bred);
        }
    }

    private static void grownBeyondTheLastDay() {
        SeizedGoods g = seizing("law 0 0 1 1 0;fair 0 999 999;", 50);
        for (int k = 0; k < 9; k++) {
            g.later(100);
        }
        g.later(98);
        grown(g, 1, 1, 1, 49);
        grown(g, 2, 1, 1, 49);
        grown(g, 30, 1, 29, 21);
        g.later(1);
        grown(g, 1, 1, 0, 50);
        grown(g, 30, 1, 29, 21);
    }

    // SEIZED in these DAYS: not what was seized ahead
    private static void grownSeizedInTheseDays() {
        SeizedGoods g = seizing("law 0 0 50 1 0;", 100);
        g.seize(0, 0, 50);
        grown(g, 1, 1, 25, 25);
        g.seize(0, 0, 25);
        grown(g, 1, 1, 12, 13);
        g.seize(0, 0, 12);
        g.pay(0, 13);
        grown(g, 30, 1, 0, 0);
        Check.due("seized all in all", g.count(8), 87);
    }

    private static void foretellingChangesNothing() {
        Twin.Call[] calls = {g -> g.grown(30, 0), g -> g.grown(1, 1), g -> g.grown(30, 2), g -> g.net(0), g -> g.net(1),
            g -> g.net(2), g -> g.way(0, 1), g -> g.opened(0, 1), g -> g.shut(0, 1), g -> g.dead(), g -> g.owes(0),
            g -> g.rest(-1), g -> g.rest(0), g -> g.has(0, 728), g -> g.holds(0, 1, 99), g -> g.reform(10), g -> g.may(0, 0, 1),
            g -> g.says(0), g -> g.kind(0), g -> g.man(0, 2), g -> g.law(0, 0), g -> g.claim(0, 0), g -> g.count(8),
            g -> g.trace(0), g -> g.fault(), g -> g.status(), g -> g.as(0, 0)};
        for (int k = 0; k < calls.length; k++) {
            Twin.unchanged("foretelling " + k, Made::rich, calls[k]);
            Twin.unchanged("foretelling, crowded " + k, Made::crowded, calls[k]);
        }
    }

    private static void netOfNothing() {
        for (String text : new String[] {"town 1;", "town 1;man 0;", Made.TEXT}) {
            SeizedGoods g = Check.landed(text);
            for (int what = 0; what < 3; what++) {
                Check.due("net " + what, g.net(what), 0);
            }
        }
        SeizedGoods paid = Check.landed("town 1;man 0;man 0;");
        paid.debt(0, 1, 5);
        paid.pay(0, 5);
        for (int what = 0; what < 3; what++) {
            Check.due("net of paid ones " + what, paid.net(what), 0);
        }
    }

    // COIN: all BALANCES above 0, added
    private static void coin() {
        SeizedGoods g = Check.landed("town 1;man 0;man 0;man 0;");
        g.debt(0, 1, 1);
        Check.due("1", g.net(0), 1);
        g.debt(1, 0, 1);
        Check.due("0", g.net(0), 0);
        g.debt(1, 0, 1);
        Check.due("1 the other way", g.net(0), 1);
        g.debt(1, 2, 999);
        Check.due("two above 0", g.net(0), 1000);
        // Claims within a town and between towns count alike, and so do bred ones.
        SeizedGoods bred = seizing("law 0 0 100 1 0;", 8);
        bred.seize(0, 1, 8);
        Check.due("of one that is bred", bred.net(0), 8);
        Check.due("man 1", bred.man(1, 2), 8);
    }

    // OUT: MEN (bits) that have or owe what is not PAID, with BALANCE 0
    private static void outOfFirstAndLastMan() {
        SeizedGoods g = Check.landed("town 1;" + "man 0;".repeat(12));
        for (int man = 0; man < 12; man++) {
            g.debt(man, (man + 1) % 12, 7);
        }
        Check.due("all twelve", g.net(1), 4095);
        g.pay(3, 1);
        Check.due("one has 1 less, one owes 1 less", g.net(1), 4095 - 8 - 16);
        g.pay(3, 6);
        Check.due("paid", g.net(1), 4095 - 8 - 16);
        SeizedGoods ends = Check.landed("town 1;" + "man 0;".repeat(12));
        ends.debt(0, 11, 7);
        ends.debt(11, 0, 7);
        Check.due("the first and the last", ends.net(1), 1 + 2048);
        ends.pay(0, 7);
        Check.due("one of the two is paid", ends.net(1), 0);
        ends.pay(1, 7);
        Check.due("both are paid", ends.net(1), 0);
    }

    // PAYMENTS: the fewest by which all BALANCES come to 0
    private static void paymentsUpToEleven() {
        for (int men = 1; men <= 12; men++) {
            SeizedGoods g = Check.landed("town 1;" + "man 0;".repeat(men));
            for (int man = 1; man < men; man++) {
                g.debt(0, man, 10 + man);
            }
            Check.due("one owes all of " + men, g.net(2), men - 1);
            SeizedGoods has = Check.landed("town 1;" + "man 0;".repeat(men));
            for (int man = 1; man < men; man++) {
                has.debt(man, 0, 10);
            }
            Check.due("one has all of " + men, has.net(2), men - 1);
            SeizedGoods ones = Check.landed("town 1;" + "man 0;".repeat(men));
            for (int man = 1; man < men; man++) {
                ones.debt(0, man, 1);
            }
            Check.due("one owes 1 to each of " + men, ones.net(2), men - 1);
        }
        SeizedGoods chain = Check.landed("town 1;" + "man 0;".repeat(12));
        for (int k = 0; k < 11; k++) {
            chain.debt(k, k + 1, 100 + 7 * (k % 2) * (k / 2 + 1));
        }
        Check.due("a chain", chain.net(2), paymentsByTryingAll(chain));
        SeizedGoods one = Check.landed("town 1;" + "man 0;".repeat(12));
        given(one, new int[] {6, 3, 3, -4, -4, -4});
        Check.due("6 3 3 -4 -4 -4: one group", one.net(2), 5);
        SeizedGoods groups = Check.landed("town 1;" + "man 0;".repeat(12));
        given(groups, new int[] {9, 8, 7, -1, -2, -3, -4, -5, -9});
        Check.due("9 8 7 -9 -1 -2 -3 -4 -5: 9 -9, 8 -3 -5, 7 -1 -2 -4", groups.net(2), 6);
        SeizedGoods whole = Check.landed("town 1;" + "man 0;".repeat(12));
        given(whole, new int[] {5, 5, 5, 5, 5, -1, -2, -3, -4, -6, -9});
        Check.due("5 5 5 5 5 -1 -2 -3 -4 -6 -9: 5 -1 -4, 5 -2 -3, 5 5 5 -6 -9", whole.net(2), 8);
    }

    /** Each group of men whose balances come to 0 saves a payment: all ways to make groups are tried. */
    private static int paymentsByTryingAll(SeizedGoods g) {
        int[] balance = new int[12];
        for (int man = 0; man < 12; man++) {
            balance[man] = g.man(man, 2);
        }
        int[] groups = new int[1 << 12];
        int men = 0;
        for (int man = 0; man < 12; man++) {
            men += balance[man] == 0 ? 0 : 1;
        }
        for (int set = 1; set < 1 << 12; set++) {
            for (int part = set; part > 0; part = part - 1 & set) {
                int sum = 0;
                boolean counts = true;
                for (int man = 0; man < 12; man++) {
                    sum += (part >> man & 1) * balance[man];
                    counts &= (part >> man & 1) == 0 || balance[man] != 0;
                }
                if (sum == 0 && counts) {
                    groups[set] = Math.max(groups[set], 1 + groups[set & ~part]);
                }
            }
        }
        return men - groups[(1 << 12) - 1];
    }

    /** Claims by which men 0, 1, .. have these balances. */
    private static void given(SeizedGoods g, int[] balances) {
        int[] rest = balances.clone();
        for (int has = 0; has < rest.length; has++) {
            for (int owes = 0; owes < rest.length && rest[has] > 0; owes++) {
                int sum = Math.min(rest[has], -rest[owes]);
                if (sum > 0) {
                    g.debt(owes, has, sum);
                    rest[has] -= sum;
                    rest[owes] += sum;
                }
            }
        }
        for (int man = 0; man < balances.length; man++) {
            Check.due("balance " + man, g.man(man, 2), balances[man]);
        }
    }

    private static void wayWhereHeIs() {
        SeizedGoods g = Check.landed(SIX);
        for (int man = 0; man < 6; man++) {
            for (int town = 0; town < 6; town++) {
                Check.due("no roads at all", g.way(man, town), man == town ? 0 : Check.NONE);
            }
        }
        SeizedGoods seized = seizing("law 0 0 100 1 0;", 8);
        Check.due("he can be seized where he is", seized.may(0, 0, 0), 0);
        Check.due("where he is", seized.way(0, 0), 0);
        Check.due("from there", seized.way(0, 1), 1);
        seized.goes(0, 1);
        Check.due("back there", seized.way(0, 0), Check.NONE);
    }

    private static void wayUpToFiveRoads() {
        SeizedGoods g = Check.landed(SIX + "road 0 1;road 1 2;road 2 3;road 3 4;road 4 5;");
        for (int man = 0; man < 6; man++) {
            for (int town = 0; town < 6; town++) {
                Check.due("a row of towns", g.way(man, town), Math.abs(man - town));
            }
        }
        SeizedGoods ring = Check.landed(SIX + "road 0 1;road 1 2;road 2 3;road 3 4;road 4 5;road 5 0;");
        for (int town = 0; town < 6; town++) {
            Check.due("a ring of towns", ring.way(0, town), Math.min(town, 6 - town));
        }
    }

    // each TOWN that he comes to one in which he can be
    private static void wayByTownsWhereHeCanBe() {
        // A ring of six; man 0 owes men 1 and 5, who are in the towns next to him.
        String ring = SIX + "road 0 1;road 1 2;road 2 3;road 3 4;road 4 5;road 5 0;";
        SeizedGoods g = Check.landed(ring);
        g.debt(0, 1, 5);
        int[] one = {0, Check.NONE, 4, 3, 2, 1};
        for (int town = 0; town < 6; town++) {
            Check.due("shut on one side", g.way(0, town), one[town]);
        }
        g.debt(0, 5, 5);
        for (int town = 0; town < 6; town++) {
            Check.due("shut on both sides", g.way(0, town), town == 0 ? 0 : Check.NONE);
        }
        g.pay(1, 4);
        Check.due("1 left", g.way(0, 5), Check.NONE);
        g.pay(1, 1);
        Check.due("paid", g.way(0, 5), 1);
        Check.due("from there on", g.way(0, 2), 4);
        // Were he AT it now: by the fair of today.
        SeizedGoods fair = Check.landed(ring + "fair 1 1 1;");
        fair.debt(0, 1, 5);
        Check.due("the day ahead of the fair", fair.way(0, 1), Check.NONE);
        fair.later(1);
        Check.due("the fair", fair.way(0, 1), 1);
        fair.later(1);
        Check.due("the day behind the fair", fair.way(0, 1), Check.NONE);
    }

    private static void openedWhereHeIs() {
        SeizedGoods seized = seizing("law 0 0 100 1 0;", 8);
        Check.due("he can be seized where he is", seized.may(0, 0, 0), 0);
        Check.due("and comes to no town", seized.opened(0, 0), 0);
        SeizedGoods alone = Check.landed("town 1;man 0;");
        Check.due("one town", alone.opened(0, 0), 0);
    }

    // NONE: no ROADS lead there
    private static void openedByNoRoads() {
        SeizedGoods g = Check.landed(SIX + "road 0 1;road 2 3;");
        int[] due = {0, 0, Check.NONE, Check.NONE, Check.NONE, Check.NONE};
        for (int town = 0; town < 6; town++) {
            Check.due("from 0 to " + town, g.opened(0, town), due[town]);
        }
        Check.due("from 2 to 3", g.opened(2, 3), 0);
        Check.due("from 4 to 5", g.opened(4, 5), Check.NONE);
    }

    // bits 0 to 23
    private static void openedOfAllClaims() {
        SeizedGoods g = Check.landed("town 1;town 1;man 0;man 1;road 0 1;");
        int due = 0;
        for (int claim = 0; claim < 24; claim++) {
            g.debt(0, 1, 5);
            due |= 1 << claim;
            Check.due("claims up to " + claim, g.opened(0, 1), due);
        }
        for (int claim = 0; claim < 23; claim++) {
            g.pay(claim, 5);
        }
        Check.due("the last one", g.opened(0, 1), 1 << 23);
        g.pay(23, 5);
        Check.due("none", g.opened(0, 1), 0);
    }

    // the fewest, of several the least number
    private static void openedFewestThenLeast() {
        // From 0 to 3 by 1 or by 2; men 1 and 2 have claims on man 0.
        String text = "town 1;town 1;town 1;town 1;man 0;man 1;man 2;road 0 1;road 0 2;road 1 3;road 2 3;";
        for (int first = 1; first <= 2; first++) {
            int second = 3 - first;
            SeizedGoods g = Check.landed(text);
            g.debt(0, first, 5);
            Check.due("by the other one", g.opened(0, 3), 0);
            g.debt(0, second, 5);
            Check.due("one each: the least", g.opened(0, 3), 1);
            g.debt(0, first, 5);
            Check.due("two and one: the fewest", g.opened(0, 3), 2);
            g.debt(0, second, 5);
            Check.due("two each: 1 and 4, less than 2 and 8", g.opened(0, 3), 5);
            g.debt(0, first, 5);
            Check.due("three and two", g.opened(0, 3), 10);
            g.pay(1, 5);
            g.pay(0, 5);
            Check.due("2 4 of the first, 3 of the second", g.opened(0, 3), 8);
            g.pay(4, 5);
            Check.due("2 of the first, 3 of the second", g.opened(0, 3), 4);
        }
        // {0, 3} and {1, 2}: both two, 9 and 6.
        SeizedGoods crossed = Check.landed(text);
        crossed.debt(0, 1, 5);
        crossed.debt(0, 2, 5);
        crossed.debt(0, 2, 5);
        crossed.debt(0, 1, 5);
        Check.due("6, not 9", crossed.opened(0, 3), 6);
        // A way through both is no better, and the goal's own claims count by each way.
        SeizedGoods goal = Check.landed(text.replace("man 2;", "man 2;man 3;"));
        goal.debt(0, 3, 5);
        Check.due("lawful in the goal", goal.opened(0, 3), 1);
        goal.debt(0, 1, 5);
        Check.due("by the other one", goal.opened(0, 3), 1);
        goal.debt(0, 2, 5);
        Check.due("0 and 1", goal.opened(0, 3), 3);
        // By the way of five roads there is none.
        SeizedGoods row = Check.landed(SIX + "road 0 1;road 1 2;road 2 3;road 3 4;road 4 5;road 0 5;");
        row.debt(0, 5, 5);
        Check.due("the goal itself", row.opened(0, 5), 1);
        row.goes(5, 0);
        Check.due("he who has it is where he sets out", row.opened(0, 5), 0);
        row.goes(5, 5);
        Check.due("not by 5", row.opened(0, 4), 0);
        row.debt(0, 2, 5);
        Check.due("by 5, or by 2", row.opened(0, 4), 1);
    }

    private static void openedNotWhereHeSetsOut() {
        SeizedGoods g = seizing("law 0 0 100 1 0;law 1 0 100 1 0;", 8);
        Check.due("from where he can be seized", g.opened(0, 1), 0);
        g.goes(0, 1);
        Check.due("back there", g.opened(0, 0), 1);
        Check.due("his countryman is there already", g.opened(1, 0), 0);
    }

    // SHUT: .. of a new man of a, who has and owes nothing
    private static void shutForANewMan() {
        // There is no man of town 0 but who owes; a new one needs asking, who owes does not.
        SeizedGoods g = Check.landed("town 1;town 1;town 1;man 0;man 1;road 0 1;road 1 2;law 1 2 100 1 1;");
        g.debt(0, 1, 5);
        g.letter(0, 5, 1);
        g.ask(0);
        Check.due("asked once only", g.shut(0, 1), 0);
        Check.due("who owes cannot be there", g.way(0, 1), Check.NONE);
        g.ask(0);
        Check.due("asked twice", g.shut(0, 1), 1);
        g.later(1);
        Check.due("the letter's last day", g.shut(0, 1), 1);
        g.later(1);
        Check.due("it is over", g.shut(0, 1), 0);
        g.letter(0, 1, 0);
        Check.due("a letter for 1", g.shut(0, 1), 1);
        Check.due("not at a town where he is not", g.shut(0, 2), 0);
        Check.due("not the town of who has it", g.shut(1, 0), 0);
        Check.due("not a third one", g.shut(2, 1), 0);
        g.pay(0, 4);
        Check.due("1 left", g.shut(0, 1), 1);
        g.pay(0, 1);
        Check.due("paid", g.shut(0, 1), 0);
        // At the town of who owes itself, no town is "another one" for it; a third town is.
        SeizedGoods home = Check.landed("town 1;town 1;man 0;man 1;road 0 1;law 0 0 100 1 0;");
        home.debt(0, 1, 5);
        home.goes(1, 0);
        Check.due("who has it is at the town of who owes", home.shut(0, 1), 0);
        Check.due("and his own town is not shut there", home.shut(1, 0), 0);
        Check.due("so none is dead", home.dead(), 0);
    }

    // DEAD: pairs a below b that are SHUT at one or the other
    private static void deadUpToAllPairs() {
        StringBuilder laws = new StringBuilder();
        for (int town = 0; town < 6; town++) {
            laws.append("law ").append(town).append(" 0 100 1 0;");
        }
        SeizedGoods g = Check.landed(SIX + laws);
        Check.due("none", g.dead(), 0);
        int dead = 0;
        for (int a = 0; a < 6; a++) {
            for (int b = a + 1; b < 6; b++) {
                // Every second one the other way round: SHUT at the other of the two.
                g.debt(dead % 2 == 0 ? a : b, dead % 2 == 0 ? b : a, 5);
                dead++;
                Check.due("so many pairs", g.dead(), dead);
            }
        }
        Check.due("all pairs", dead, 15);
        g.debt(0, 1, 5);
        g.debt(1, 0, 5);
        Check.due("a pair shut twice, and both ways", g.dead(), 15);
        g.pact(0, 5, 1);
        Check.due("one has a pact", g.dead(), 14);
        Check.due("one town", Check.landed("town 1;man 0;man 0;").dead(), 0);
    }

    private static void owesOfNothingAndAll() {
        SeizedGoods g = Check.landed("town 1;town 1;man 0;man 0;man 1;");
        Check.due("nothing", g.owes(0), 0);
        g.debt(0, 1, 999);
        Check.due("within the town", g.owes(0), 0);
        for (int claim = 1; claim < 24; claim++) {
            g.debt(claim & 1, 2, 999);
        }
        Check.due("23 claims", g.owes(0), 23 * 999);
        Check.due("who has them owes nothing", g.owes(1), 0);
        g.pay(1, 998);
        Check.due("1 left of one", g.owes(0), 22 * 999 + 1);
        g.pay(1, 1);
        Check.due("paid", g.owes(0), 22 * 999);
    }

    private static void rows(SeizedGoods g, String what, int... due) {
        Check.due(what + ": how many", g.rest(-1), due.length);
        for (int i = 0; i < due.length; i++) {
            Check.due(what + ": row " + i, g.rest(i), due[i]);
        }
        Check.due(what + ": no more", g.rest(due.length), Check.NONE);
        Check.due(what + ": no more", g.rest(Integer.MAX_VALUE), Check.NONE);
    }

    private static void restOfOneTown() {
        SeizedGoods g = Check.landed("town 50;man 0;man 0;");
        rows(g, "nothing owed: to pay and to let be are one", 0, 2);
        g.debt(0, 1, 999);
        rows(g, "within the town", 0, 2);
    }

    private static void restOfSixTowns() {
        SeizedGoods g = Check.landed(SIX);
        Check.due("each may pay or let be", g.rest(-1), 64);
        Check.due("the first", g.rest(0), 0);
        Check.due("the second", g.rest(1), 2);
        Check.due("the third", g.rest(2), 6);
        Check.due("the last", g.rest(63), 728);
        Check.due("no more", g.rest(64), Check.NONE);
        // Each town owes so much that all let be, whatever the others do: one row.
        for (int man = 0; man < 6; man++) {
            g.debt(man, (man + 1) % 6, 999);
        }
        rows(g, "all let be", 728);
    }

    /** Town 0, of one man, owes this to town 1 of this trade; town 1 owes nothing: it pays or lets be. */
    private static SeizedGoods owing(int owes, int trade) {
        SeizedGoods g = Check.landed("town 1;town " + trade + ";man 0;man 1;man 1;");
        for (int rest = owes; rest > 0; rest -= Math.min(999, rest)) {
            g.debt(0, 1, Math.min(999, rest));
        }
        return g;
    }

    // AT REST: no TOWN has more by another choice of its own alone: as much is no more
    private static void restOfTies() {
        rows(owing(18, 99), "pay 18, make 19", 0, 6);
        rows(owing(19, 99), "pay 19, make 19", 0, 1, 6, 7);
        rows(owing(20, 99), "pay 20, make 20", 0, 1, 6, 7);
        rows(owing(21, 99), "pay 21, make 20", 1, 7);
        // Let be: 99, or 49 if town 1 lets be, too.
        rows(owing(77, 99), "make 48, let be 99 or 49", 1, 7);
        rows(owing(78, 99), "make 49, let be 99 or 49", 1, 7, 8);
        rows(owing(80, 99), "make 50, let be 99 or 49", 1, 8);
        rows(owing(177, 99), "make 98, let be 99 or 49", 1, 8);
        rows(owing(178, 99), "make 99, let be 99 or 49", 1, 2, 8);
        rows(owing(180, 99), "make 100, let be 99 or 49", 2, 8);
        rows(owing(999 * 3, 99), "far more", 2, 8);
        // A trade of 0 is lost for nothing.
        rows(owing(1, 0), "pay 1, let be 0", 2, 8);
        rows(owing(1, 1), "pay 1, let be 1 or 0", 0, 2, 8);
        rows(owing(1, 2), "pay 1, let be 2 or 1", 0, 6, 8);
    }

    // TRADE, by 2 if that lets be too: of each TOWN, cut
    private static void restOfHalves() {
        SeizedGoods g = Check.landed("town 9;town 3;town 5;man 0;man 1;man 2;");
        g.debt(0, 1, 1);
        g.debt(0, 2, 1);
        Check.due("none lets be", g.has(0, 2), -8);
        Check.due("1 lets be: 1 and 5", g.has(0, 2 + 6), -6);
        Check.due("2 lets be: 3 and 2", g.has(0, 2 + 18), -5);
        Check.due("both let be: 1 and 2, not half of 8", g.has(0, 2 + 24), -3);
        g.pay(0, 1);
        Check.due("nothing left on it: its trade is not lost", g.has(0, 2), -5);
    }

    // A row of choices as a number: of TOWN 0, 3 times that of TOWN 1, 9 times, and so on
    private static void hasOfEachRow() {
        int[] powers = {1, 3, 9, 27, 81, 243, 729};
        for (int towns = 1; towns <= 6; towns++) {
            SeizedGoods g = Check.landed("town 1;".repeat(towns));
            int rows = powers[towns];
            Check.due("first row", g.has(0, 0), 0);
            Check.due("last row", g.has(towns - 1, rows - 1), 0);
            Check.due("a row more", g.has(0, rows), Check.BAD);
            Check.due("a row less than none", g.has(0, -1), Check.BAD);
            for (int town = 0; town < towns; town++) {
                for (int makes = 0; makes < towns; makes++) {
                    Check.due("only " + makes + " makes him", g.has(town, powers[makes]), town == makes ? -10 : 0);
                }
            }
        }
        // GETS: of TOWNS that do not let be.
        SeizedGoods g = Check.landed(SIX);
        for (int man = 1; man < 6; man++) {
            g.debt(man, 0, man);
        }
        Check.due("all pay", g.has(0, 0), 15);
        for (int town = 1; town < 6; town++) {
            Check.due("one makes him", g.has(0, powers[town]), 15);
            Check.due("one lets be", g.has(0, 2 * powers[town]), 15 - town);
            Check.due("it pays", g.has(town, 0), -town);
            Check.due("it makes him", g.has(town, powers[town]), -(town / 2 + 10));
            Check.due("it lets be", g.has(town, 2 * powers[town]), -10);
            Check.due("it lets be, 0 too", g.has(town, 2 * powers[town] + 2), -5);
        }
        Check.due("all let be", g.has(0, 728), 0);
    }

    // MAKE: OWES by 2, and 10: cut towards 0
    private static void hasCuts() {
        int[][] cases = {{0, 10}, {1, 10}, {2, 11}, {3, 11}, {999, 509}, {998, 509}};
        for (int[] one : cases) {
            SeizedGoods g = owing(one[0], 7);
            Check.due("pays " + one[0], g.has(0, 0), -one[0]);
            Check.due("makes him, of " + one[0], g.has(0, 1), -one[1]);
            Check.due("lets be", g.has(0, 2), one[0] == 0 ? 0 : -7);
            Check.due("lets be, 1 too", g.has(0, 8), one[0] == 0 ? 0 : -3);
        }
        SeizedGoods all = owing(24 * 999, 99);
        Check.due("the most", all.has(0, 0), -24 * 999);
        Check.due("the most", all.has(1, 0), 24 * 999);
        Check.due("the most, let be", all.has(1, 2), 0);
        Check.due("half of the most", all.has(0, 1), -(12 * 999 + 10));
    }

    // .. times (100 less w), is no more than TRADE of the other one times w
    private static void holdsJustSo() {
        // Town 1 has due on town 0 of this trade: the least w at which it holds.
        int[][] cases = {{1, 99, 1}, {2, 99, 2}, {1, 1, 50}, {99, 99, 50}, {3, 1, 75}, {99, 1, 99}, {10, 40, 20}, {11, 40, 22},
            {100, 1, 100}, {98, 1, 99}, {999, 99, 91}, {1, 0, 100}};
        for (int[] one : cases) {
            SeizedGoods g = Check.landed("town " + one[1] + ";town 5;man 0;man 1;");
            g.debt(0, 1, one[0]);
            for (int w = 0; w <= 99; w++) {
                Check.due(one[0] + " on a trade of " + one[1] + " at " + w, g.holds(0, 1, w), w >= one[2] ? 1 : 0);
            }
            Check.due("the other way", g.holds(1, 0, Math.min(99, one[2])), one[2] <= 99 ? 1 : 0);
            Check.due("the other way, one less", g.holds(1, 0, one[2] - 1), 0);
        }
        SeizedGoods nothing = Check.landed("town 0;town 0;man 0;man 1;");
        Check.due("nothing due at 0", nothing.holds(0, 1, 0), 1);
        Check.due("nothing due at 99", nothing.holds(0, 1, 99), 1);
        nothing.debt(0, 1, 1);
        Check.due("1 due at 99, no trade", nothing.holds(0, 1, 99), 0);
        nothing.pay(0, 1);
        Check.due("paid", nothing.holds(0, 1, 0), 1);
        SeizedGoods most = owing(24 * 999, 99);
        Check.due("the most due", most.holds(0, 1, 99), 0);
    }

    private static void holdsOfBothSides() {
        // Town 0 of trade 10, town 1 of trade 20: 1 has 10 on 0 (from 50 on), 0 has 20 on 1 (from 50 on).
        SeizedGoods g = Check.landed("town 10;town 20;town 99;man 0;man 1;man 2;man 0;");
        g.debt(0, 1, 10);
        g.debt(1, 0, 20);
        Check.due("49", g.holds(0, 1, 49), 0);
        Check.due("50", g.holds(0, 1, 50), 1);
        g.debt(0, 1, 1);
        Check.due("one side too much", g.holds(0, 1, 50), 0);
        Check.due("one side too much", g.holds(1, 0, 50), 0);
        g.pay(2, 1);
        g.debt(1, 0, 1);
        Check.due("the other side too much", g.holds(0, 1, 50), 0);
        Check.due("the other side too much", g.holds(1, 0, 50), 0);
        g.pay(3, 1);
        g.debt(0, 3, 999);
        g.debt(2, 0, 999);
        Check.due("within a town, and of a third one", g.holds(0, 1, 50), 1);
        g.pact(0, 1, 1);
        Check.due("whether there is one or not", g.holds(0, 1, 50), 1);
    }

    private static void reformOfNothing() {
        for (String text : new String[] {"town 1;", Made.TEXT}) {
            SeizedGoods g = Check.landed(text);
            Check.due("no claims, a day", g.reform(1), 0);
            Check.due("no claims, ten days", g.reform(10), 0);
        }
        SeizedGoods unlawful = seizing("pact 0 1;", 50);
        Check.due("none is lawful", unlawful.reform(10), 0);
        SeizedGoods fair = seizing("fair 0 0 9;", 50);
        Check.due("a fair on all ten days", fair.reform(10), 0);
        fair.later(1);
        Check.due("a fair on nine of ten days", fair.reform(9), 0);
        Check.due("a fair on nine of ten days", fair.reform(10), 12);
    }

    // REFORM by n DAYS (1 to 10): as soon as a smaller MOST takes all, its number is less
    private static void reformByOneToTenDays() {
        for (int sum : new int[] {1, 2, 3, 4, 5, 8, 16, 100, 999}) {
            SeizedGoods g = seizing("law 0 3 1 1 1;", sum);
            for (int days = 1; days <= 10; days++) {
                int best = 0;
                int least = sum + 1;
                for (int most = 0; most < 4; most++) {
                    int left = sum;
                    for (int day = 0; day < days && left > 0; day++) {
                        left -= Math.max(1, left * 25 * (most + 1) / 100);
                    }
                    if (left < least) {
                        least = left;
                        best = 4 * most;
                    }
                }
                Check.due("reform of " + sum + " by " + days, g.reform(days), best);
            }
        }
    }

    private static void reformOfEachMost() {
        // 1: every MOST takes it. 2 in two days: every MOST. 3 in two days: 25, 50 leave 1; 75 leaves none. 3 in a day: 100.
        Check.due("25", seizing("", 1).reform(1), 0);
        Check.due("25", seizing("", 2).reform(2), 0);
        Check.due("50", seizing("", 4).reform(3), 4);
        Check.due("75", seizing("", 3).reform(2), 8);
        Check.due("100", seizing("", 3).reform(1), 12);
        // All towns alike, the one where it is done, too; and the laws themselves stay.
        SeizedGoods g = seizing("law 0 3 1 1 1;law 1 3 1 1 1;", 3);
        Check.due("100", g.reform(1), 12);
        for (int town = 0; town < 2; town++) {
            Check.due("asked", g.law(town, 0), 3);
            Check.due("most", g.law(town, 1), 1);
            Check.due("back", g.law(town, 2), 1);
            Check.due("letter", g.law(town, 3), 1);
        }
        // Who owes is away, and his town was never asked: a law that does not ask is best.
        SeizedGoods unasked = seizing("law 0 3 1 1 1;", 3);
        unasked.goes(0, 1);
        Check.due("100, not asked", unasked.reform(1), 12);
        Check.due("75, not asked", unasked.reform(2), 8);
        // Without BACK less is LEFT.
        SeizedGoods back = Check.landed("town 1;town 1;man 0;man 0;man 1;road 0 1;law 0 0 100 1 0;");
        back.goes(2, 0);
        back.debt(1, 2, 3);
        back.letter(0, 3, 9);
        for (int k = 0; k < 3; k++) {
            back.ask(0);
        }
        Check.due("100, no back", back.reform(1), 12);
        Check.due("75, no back", back.reform(2), 8);
        Check.due("25, no back", back.reform(3), 0);
    }

    private static void imagesOfNone() {
        SeizedGoods g = new SeizedGoods();
        for (int k = 0; k < 2; k++) {
            Check.due("no land", g.image(k), Check.STATE);
            Check.due("none was kept", g.restore(k), Check.STATE);
        }
        Check.read(g, "town 1;");
        for (int k = 0; k < 2; k++) {
            Check.due("none was kept", g.restore(k), Check.STATE);
        }
        Check.read(g, "x");
        Check.due("kept", g.image(0), 1);
        Check.due("restored", g.restore(0), 1);
        Check.due("the other one was not", g.restore(1), Check.STATE);
    }

    private static void imagesAreTwo() {
        for (int first = 0; first < 2; first++) {
            SeizedGoods g = Check.landed("town 1;man 0;man 0;");
            g.later(5);
            Check.due("kept", g.image(first), 1);
            g.later(5);
            Check.due("kept, too", g.image(1 - first), 1);
            g.later(5);
            Check.due("first", g.restore(first), 1);
            Check.due("day", g.count(9), 5);
            Check.due("second", g.restore(1 - first), 1);
            Check.due("day", g.count(9), 10);
            Check.due("first again", g.restore(first), 1);
            Check.due("day", g.count(9), 5);
        }
    }

    private static void imageInPlaceOfOne() {
        SeizedGoods g = Check.landed("town 1;man 0;man 0;");
        g.image(0);
        for (int claim = 0; claim < 24; claim++) {
            g.debt(0, 1, 1 + claim);
        }
        Check.due("in its place", g.image(0), 1);
        Check.due("another land", Check.read(g, "town 2;town 3;"), 2);
        g.restore(0);
        Check.due("24 claims", g.count(6), 24);
        Check.due("the last of them", g.claim(23, 2), 24);
        Check.read(g, "town 1;man 0;man 0;");
        g.image(0);
        Check.due("none in their place", g.restore(0), 1);
        Check.due("no claims", g.count(6), 0);
        Check.due("no claims", g.claim(0, 0), Check.BAD);
        Check.due("room for all", g.debt(0, 1, 5), 0);
    }

    // An IMAGE is kept of all: every number of every claim, of men, towns, days
    private static void imageOfAll() {
        Twin.Steps changed = g -> {
            Made.crowded(g);
            g.image(0);
            g.image(1);
        };
        Twin.unchanged("restore at once", changed, g -> g.restore(0));
        Twin.unchanged("restore behind changes", changed, g -> {
            g.later(9);
            g.goes(0, 1);
            g.goes(2, 3);
            g.pact(1, 2, 1);
            g.pact(0, 3, 0);
            g.ask(2);
            g.letter(0, 999, 99);
            g.letter(2, 5, 5);
            g.pay(0, 9);
            g.pay(23, 9);
            g.swear(0, 0, 1);
            g.swear(1, 0, 0);
            g.swear(5, 23, 1);
            return g.restore(1);
        });
        Twin.Steps sparse = g -> {
            Made.rich(g);
            g.image(0);
            g.image(1);
        };
        Twin.unchanged("restore behind more claims", sparse, g -> {
            g.seize(0, 6, 5);
            for (int k = 0; k < 20; k++) {
                g.debt(0, 1, 9);
            }
            return g.restore(0);
        });
        Twin.Steps untaped = g -> {
            Made.rich(g);
            g.image(0);
            g.image(1);
            g.land();
            g.restore(0);
        };
        Twin.unchanged("restore behind another land", untaped, g -> {
            Check.read(g, "town 1;".repeat(6) + "man 5;".repeat(12) + "road 4 5;law 0 3 3 0 1;fair 1 1 2;fair 3 1 2;pact 4 5;");
            for (int k = 0; k < 24; k++) {
                g.debt(k % 12, (k + 1) % 12, 900 + k);
            }
            g.later(50);
            return g.restore(1);
        });
    }

    private static void imageOfNoMen() {
        SeizedGoods g = Check.landed("town 99;");
        Check.due("kept", g.image(1), 1);
        Check.due("another land", Check.read(g, Made.TEXT), 6);
        Check.due("restored", g.restore(1), 1);
        int[] counts = {0, 1, 0, 0, 0, 0, 0, 0, 0, 0, 0};
        for (int what = 0; what <= 10; what++) {
            Check.due("count " + what, g.count(what), counts[what]);
        }
        Check.due("trade", g.law(0, 4), 99);
        Check.due("most", g.law(0, 1), 100);
    }

    /** What is done to the land behind an image, or behind a restore, does not come to the image. */
    private static void imageIsNotTheLand() {
        SeizedGoods g = seizing("law 0 0 100 1 0;", 50);
        g.image(0);
        for (int k = 0; k < 3; k++) {
            g.seize(0, 1, 10);
            g.later(1);
            g.goes(0, 1);
            g.pact(0, 1, 1);
            g.swear(0, 0, 1);
            Check.due("restored", g.restore(0), 1);
            Check.due("left", g.claim(0, 3), 50);
            Check.due("claims", g.count(6), 1);
            Check.due("seized", g.count(8), 0);
            Check.due("day", g.count(9), 0);
            Check.due("at", g.man(0, 1), 0);
            Check.due("pacts", g.count(5), 0);
            Check.due("oaths", g.says(0), 0);
        }
    }

    // of all but SHEETS, the tape, IMAGES
    private static void restoreLeavesSheetsTapeImages() {
        SeizedGoods g = Check.landed("town 1;man 0;man 0;");
        g.sheet(0, 0, 5);
        Check.feed(g, "town");
        g.image(0);
        g.later(7);
        g.image(1);
        g.drop(0);
        g.sheet(3, 2, 40);
        g.sheet(4, 1, 3);
        g.set(4, 1, 1);
        g.set(4, 2, 77);
        Check.feed(g, " 45;");
        g.image(1);
        g.restore(0);
        Check.due("sheets", g.count(0), 2);
        Check.due("tape", g.count(10), 8);
        Check.due("dropped stays so", g.drop(0), Check.NULL);
        Check.due("items", g.debts(4, 0, 1), 1);
        Check.due("sum", g.claim(0, 2), 77);
        Check.due("the other image", g.restore(1), 1);
        Check.due("day", g.count(9), 7);
        Check.due("the tape is read", g.land(), 1);
        Check.due("as it was", g.law(0, 4), 45);
        Check.due("images outlive a land", g.restore(0), 1);
        Check.due("day", g.count(9), 0);
    }
}
