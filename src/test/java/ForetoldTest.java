/** Promises 24 to 36. */
public final class ForetoldTest {
    public static void main(String[] args) {
        grown();
        grownDays();
        grownFirstMan();
        grownWithoutRoom();
        net();
        payments();
        way();
        opened();
        openedLeast();
        shut();
        owes();
        restOfTwo();
        has();
        holds();
        reform();
        reformTies();
        images();
        imagesOfLands();
        imagesOfClaims();
        Check.end();
    }

    private static void grown() {
        SeizedGoods none = new SeizedGoods();
        Check.due("no land", none.grown(1, 0), Check.STATE);
        Check.due("bad ahead", none.grown(0, 0), Check.BAD);
        SeizedGoods g = Check.landed("town 1;town 1;man 0;man 0;man 1;road 0 1;law 0 0 50 1 0;");
        Check.due("n 0", g.grown(0, 0), Check.BAD);
        Check.due("n 31", g.grown(31, 0), Check.BAD);
        Check.due("what -1", g.grown(1, -1), Check.BAD);
        Check.due("what 3", g.grown(1, 3), Check.BAD);
        // 1 owes 2, who is in town 0: man 0 is seized first, though 1 owes it.
        g.debt(1, 2, 100);
        g.goes(2, 0);
        // Day 0: 50 of 0, who then has 50 on 1, a countryman: never lawful. Day 1: 25. Day 2: 12.
        told(g, 1, 2, 50, 100);
        told(g, 2, 3, 75, 100);
        told(g, 3, 4, 87, 100);
        Check.due("a copy: claims", g.count(6), 1);
        Check.due("a copy: left", g.claim(0, 3), 100);
        Check.due("a copy: seized", g.count(8), 0);
        Check.due("a copy: day", g.count(9), 0);
        // What was seized ahead is not of these days.
        g.seize(0, 1, 40);
        told(g, 1, 2, 30, 60);
    }

    private static void told(SeizedGoods g, int days, int claims, int seized, int left) {
        Check.due("claims in " + days, g.grown(days, 0), claims);
        Check.due("seized in " + days, g.grown(days, 1), seized);
        Check.due("left in " + days, g.grown(days, 2), left);
    }

    private static void grownDays() {
        // A fair on day 1, a letter until day 2.
        SeizedGoods g = Check.landed("town 1;town 1;man 0;man 1;road 0 1;law 0 0 10 1 1;fair 0 1 1;");
        g.debt(0, 1, 100);
        g.goes(1, 0);
        g.letter(0, 999, 3);
        // Day 0: 10 of 100. Day 1: fair. Day 2: 9 of 90. Day 3: 8 of 81. Day 4: over.
        told(g, 1, 1, 10, 90);
        told(g, 2, 1, 10, 90);
        told(g, 3, 1, 19, 81);
        told(g, 4, 1, 27, 73);
        told(g, 30, 1, 27, 73);
        g.letter(0, 15, 3);
        told(g, 3, 1, 15, 85);
        told(g, 4, 1, 15, 85);
        // Bred claims wait for the next day: 0 of town 0 owes 2 of town 1; 1, of town 0, is at town 2.
        SeizedGoods b = Check.landed("town 1;town 1;town 1;man 0;man 0;man 1;road 0 2;road 1 2;law 2 0 100 1 0;");
        b.debt(0, 2, 8);
        b.goes(1, 2);
        b.goes(2, 2);
        told(b, 1, 2, 8, 8);
        told(b, 2, 2, 8, 8);
        // 999 days are no end for a copy.
        for (int k = 0; k < 9; k++) {
            b.later(100);
        }
        b.later(99);
        told(b, 30, 2, 8, 8);
    }

    private static void grownFirstMan() {
        // Claims by numbers: the first takes what it may ahead of the second; each seizes of one man only.
        SeizedGoods g = Check.landed("town 1;town 1;man 1;man 0;man 0;road 0 1;law 1 0 100 0 0;");
        g.debt(1, 0, 10);
        g.debt(2, 0, 20);
        g.goes(1, 1);
        told(g, 1, 2, 30, 0);
        g.goes(1, 0);
        told(g, 5, 2, 0, 30);
        g.goes(2, 1);
        told(g, 1, 2, 30, 0);
        // Who owes needs no asking: with 1 asked for, only the debtor himself is seized.
        SeizedGoods d = Check.landed("town 1;town 1;man 1;man 0;man 0;road 0 1;law 1 1 100 1 0;");
        d.debt(2, 0, 10);
        d.goes(1, 1);
        told(d, 3, 1, 0, 10);
        d.goes(2, 1);
        told(d, 3, 1, 10, 0);
        d.ask(0);
        told(d, 3, 2, 10, 10);
    }

    private static void grownWithoutRoom() {
        SeizedGoods g = Check.landed("town 1;town 1;man 0;man 0;man 1;road 0 1;law 0 0 1 1 0;");
        for (int k = 0; k < 20; k++) {
            g.debt(1, 2, 3);
        }
        g.goes(2, 0);
        // Each of 20 seizes 1 a day of man 0; four are bred, then there is no room.
        told(g, 1, 24, 20, 44);
        told(g, 3, 24, 60, 4);
        told(g, 4, 24, 60, 4);
    }

    private static void net() {
        SeizedGoods none = new SeizedGoods();
        Check.due("no land", none.net(0), Check.STATE);
        Check.due("bad ahead", none.net(3), Check.BAD);
        SeizedGoods g = Check.landed("town 1;man 0;man 0;man 0;man 0;");
        Check.due("what -1", g.net(-1), Check.BAD);
        Check.due("what 3", g.net(3), Check.BAD);
        Check.due("no coin", g.net(0), 0);
        Check.due("none out", g.net(1), 0);
        Check.due("no payments", g.net(2), 0);
        g.debt(0, 1, 10);
        g.debt(1, 2, 10);
        Check.due("coin", g.net(0), 10);
        Check.due("1 is out", g.net(1), 2);
        Check.due("payments", g.net(2), 1);
        g.debt(2, 0, 10);
        Check.due("coin of a ring", g.net(0), 0);
        Check.due("all are out", g.net(1), 7);
        Check.due("payments of a ring", g.net(2), 0);
        g.pay(0, 10);
        Check.due("coin", g.net(0), 10);
        Check.due("2 is out", g.net(1), 4);
        g.pay(1, 10);
        g.pay(2, 10);
        Check.due("paid ones are not out", g.net(1), 0);
    }

    private static void payments() {
        SeizedGoods g = Check.landed("town 1;" + "man 0;".repeat(12));
        // Balances 5 5 5 -3 -3 -3 -6: no group comes to 0 but all, so 6; greedy pairs do no better.
        g.debt(3, 0, 3);
        g.debt(4, 1, 3);
        g.debt(5, 2, 3);
        g.debt(6, 0, 2);
        g.debt(6, 1, 2);
        g.debt(6, 2, 2);
        Check.due("one group", g.net(2), 6);
        // 7 has 6 of 8: -6 and 6 make a group: {6 with -6}, too: still the most groups count.
        g.debt(8, 7, 6);
        Check.due("two groups", g.net(2), 7);
        // 9 has 1, 10 owes 1: three groups.
        g.debt(10, 9, 1);
        Check.due("three groups", g.net(2), 8);
        SeizedGoods pairs = Check.landed("town 1;" + "man 0;".repeat(12));
        for (int k = 0; k < 6; k++) {
            pairs.debt(2 * k, (2 * k + 3) % 12, 10 + k);
        }
        Check.due("six pairs", pairs.net(2), 6);
        SeizedGoods star = Check.landed("town 1;" + "man 0;".repeat(12));
        for (int k = 0; k < 11; k++) {
            star.debt(k, 11, 1 << k % 9);
        }
        Check.due("a star", star.net(2), 11);
        // 4 and -1 -3, 5 and -5: a pair and a three.
        SeizedGoods mixed = Check.landed("town 1;" + "man 0;".repeat(12));
        mixed.debt(1, 0, 4);
        mixed.debt(1, 3, 1);
        mixed.debt(2, 3, 3);
        mixed.debt(4, 3, 1);
        Check.due("4 5 -5 -3 -1", mixed.net(2), 3);
    }

    private static void way() {
        // A ring of four towns: 0 1 2 3. Man 0 of town 0 owes man 1 of town 1.
        SeizedGoods g = Check.landed("town 1;town 1;town 1;town 1;town 1;man 0;man 1;man 0;"
            + "road 0 1;road 1 2;road 2 3;road 3 0;law 1 0 100 1 0;law 2 0 100 1 0;");
        Check.due("man", g.way(-1, 0), Check.BAD);
        Check.due("man", g.way(3, 0), Check.BAD);
        Check.due("town", g.way(0, 5), Check.BAD);
        Check.due("town", g.way(0, -1), Check.BAD);
        g.debt(0, 1, 10);
        Check.due("where he is", g.way(0, 0), 0);
        Check.due("cannot be there", g.way(0, 1), Check.NONE);
        Check.due("around", g.way(0, 2), 2);
        Check.due("no road", g.way(0, 4), Check.NONE);
        Check.due("his countryman neither", g.way(2, 1), Check.NONE);
        g.goes(1, 2);
        Check.due("shut by the way", g.way(0, 2), Check.NONE);
        Check.due("open now", g.way(0, 1), 1);
        Check.due("beside it", g.way(0, 3), 1);
        // Where he stands he may be seized, and yet set out.
        g.goes(2, 1);
        g.goes(1, 1);
        Check.due("where he is, seized or not", g.way(2, 1), 0);
        Check.due("away from there", g.way(2, 0), 1);
        Check.due("away from there", g.way(2, 3), 2);
        g.pay(0, 10);
        Check.due("once it is paid", g.way(0, 1), 1);
        Check.due("no way to 4", g.way(0, 4), Check.NONE);
    }

    private static void opened() {
        SeizedGoods g = Check.landed("town 1;town 1;town 1;town 1;town 1;man 0;man 1;man 2;man 3;man 0;"
            + "road 0 1;road 1 2;road 2 3;road 3 0;law 0 0 100 1 0;law 1 0 100 1 0;law 2 0 100 1 0;law 3 0 100 1 0;");
        Check.due("man", g.opened(-1, 0), Check.BAD);
        Check.due("man", g.opened(5, 0), Check.BAD);
        Check.due("town", g.opened(0, 5), Check.BAD);
        Check.due("town", g.opened(0, -1), Check.BAD);
        Check.due("no roads", g.opened(0, 4), Check.NONE);
        g.debt(0, 1, 10);
        g.debt(0, 1, 10);
        g.debt(0, 3, 10);
        g.debt(0, 2, 10);
        Check.due("where he is", g.opened(0, 0), 0);
        Check.due("next", g.opened(0, 1), 3);
        Check.due("by 3: 2 and 3, fewer than 0, 1 and 3", g.opened(0, 2), 12);
        Check.due("other side", g.opened(0, 3), 4);
        Check.due("his countryman", g.opened(4, 2), 12);
        Check.due("a third one", g.opened(2, 0), 0);
        g.pay(2, 10);
        Check.due("paid", g.opened(0, 2), 8);
        Check.due("around is free", g.opened(0, 1), 3);
        g.debt(0, 1, 10);
        Check.due("what is lawful in the goal itself counts by any way", g.opened(0, 1), 19);
    }

    private static void openedLeast() {
        // Two ways of one claim each: the least number.
        SeizedGoods g = Check.landed("town 1;town 1;town 1;town 1;man 0;man 1;man 3;"
            + "road 0 1;road 1 2;road 2 3;road 3 0;law 1 0 100 1 0;law 3 0 100 1 0;");
        g.debt(0, 2, 5);
        g.debt(0, 1, 5);
        Check.due("least number", g.opened(0, 2), 1);
        SeizedGoods h = Check.landed("town 1;town 1;town 1;town 1;man 0;man 1;man 3;"
            + "road 0 1;road 1 2;road 2 3;road 3 0;law 1 0 100 1 0;law 3 0 100 1 0;");
        h.debt(0, 1, 5);
        h.debt(0, 2, 5);
        Check.due("least number, told the other way", h.opened(0, 2), 1);
        // One of a high number is less than two of low ones.
        h.debt(0, 1, 5);
        Check.due("fewest, though a greater number", h.opened(0, 2), 2);
        // A longer way with fewer claims.
        SeizedGoods far = Check.landed("town 1;town 1;town 1;town 1;man 0;man 1;"
            + "road 0 1;road 1 3;road 0 2;road 2 1;road 2 3;law 1 0 100 1 0;");
        far.debt(0, 1, 5);
        Check.due("free by 2", far.opened(0, 3), 0);
        // The same claim in two towns cannot be: it is had in one. A set all the same.
        far.debt(0, 1, 5);
        Check.due("both at 1", far.opened(0, 1), 3);
    }

    private static void shut() {
        SeizedGoods none = new SeizedGoods();
        Check.due("no land", none.dead(), Check.STATE);
        SeizedGoods g = Check.landed("town 1;town 1;town 1;man 0;man 1;road 0 1;road 1 2;law 1 1 100 1 0;");
        Check.due("alike", g.shut(0, 0), Check.BAD);
        Check.due("town", g.shut(0, 3), Check.BAD);
        Check.due("town", g.shut(-1, 0), Check.BAD);
        Check.due("none dead", g.dead(), 0);
        g.debt(0, 1, 9);
        Check.due("not asked", g.shut(0, 1), 0);
        Check.due("who owes himself is seized, a new one not", g.opened(0, 1), 1);
        g.ask(0);
        Check.due("shut", g.shut(0, 1), 1);
        Check.due("not the other way", g.shut(1, 0), 0);
        Check.due("not a third", g.shut(2, 1), 0);
        Check.due("dead", g.dead(), 1);
        g.goes(1, 2);
        Check.due("where he is now", g.shut(0, 2), 1);
        Check.due("not where he was", g.shut(0, 1), 0);
        Check.due("dead", g.dead(), 1);
        g.debt(1, 0, 9);
        g.ask(1);
        Check.due("the other one is shut at 0", g.shut(1, 0), 1);
        Check.due("two dead", g.dead(), 2);
        g.goes(1, 1);
        Check.due("shut both ways is one pair", g.dead(), 1);
        g.pact(0, 1, 1);
        Check.due("pact", g.shut(0, 1), 0);
        Check.due("pact", g.dead(), 0);
    }

    private static final String COUNCIL = "town 40;town 30;town 21;man 0;man 1;man 2;man 0;";

    private static void owes() {
        SeizedGoods g = Check.landed(COUNCIL);
        Check.due("town", g.owes(-1), Check.BAD);
        Check.due("town", g.owes(3), Check.BAD);
        Check.due("nothing", g.owes(0), 0);
        g.debt(0, 1, 50);
        g.debt(0, 2, 7);
        g.debt(0, 3, 900);
        g.debt(3, 1, 3);
        g.pay(1, 2);
        Check.due("of other towns only", g.owes(0), 58);
        Check.due("had, not owed", g.owes(1), 0);
    }

    private static void restOfTwo() {
        SeizedGoods none = new SeizedGoods();
        Check.due("no land", none.rest(-1), Check.STATE);
        Check.due("bad ahead", none.rest(-2), Check.BAD);
        // Town 0 owes 30 to town 1 of trade 20; town 1 owes 30 to town 0 of trade 60.
        SeizedGoods g = Check.landed("town 60;town 20;man 0;man 1;");
        g.debt(0, 1, 30);
        g.debt(1, 0, 30);
        Check.due("i -2", g.rest(-2), Check.BAD);
        // Town 0: pay 30, make 25, let be 20 or (1 lets be) 10: it lets be.
        // Town 1: pay 30, make 25, let be 60 or (0 lets be) 30: it makes him.
        Check.due("one row", g.rest(-1), 1);
        Check.due("0 lets be, 1 makes him", g.rest(0), 2 + 3);
        Check.due("no more", g.rest(1), Check.NONE);
        Check.due("far more", g.rest(Integer.MAX_VALUE), Check.NONE);
        // Two rows: both let be (half of 50 is no more than 25), and ties count as rest.
        SeizedGoods h = Check.landed("town 50;town 50;man 0;man 1;");
        h.debt(0, 1, 30);
        h.debt(1, 0, 30);
        Check.due("two rows", h.rest(-1), 2);
        Check.due("both make him", h.rest(0), 4);
        Check.due("both let be", h.rest(1), 8);
        Check.due("no more", h.rest(2), Check.NONE);
    }

    private static void has() {
        SeizedGoods g = Check.landed(COUNCIL);
        Check.due("town", g.has(-1, 0), Check.BAD);
        Check.due("town", g.has(3, 0), Check.BAD);
        Check.due("choices", g.has(0, -1), Check.BAD);
        Check.due("choices", g.has(0, 27), Check.BAD);
        Check.due("nothing owed", g.has(0, 26), 0);
        Check.due("making costs", g.has(0, 1), -10);
        g.debt(0, 1, 51);
        g.debt(0, 2, 6);
        g.debt(1, 3, 33);
        g.debt(0, 3, 500);
        // Town 0: owes 57; has 33 on town 1.
        Check.due("pays, 1 pays", g.has(0, 0), 33 - 57);
        Check.due("makes him, 1 pays", g.has(0, 1), 33 - 38);
        Check.due("lets be", g.has(0, 2), 33 - 51);
        Check.due("lets be, 1 makes him", g.has(0, 2 + 3), 33 - 51);
        Check.due("lets be, 1 too", g.has(0, 2 + 6), -(15 + 21));
        Check.due("lets be, 2 too: half of 21 is cut", g.has(0, 2 + 18), 33 - (30 + 10));
        Check.due("all let be", g.has(0, 26), -25);
        Check.due("of 1, all pay", g.has(1, 0), 51 - 33);
        Check.due("of 1, 0 lets be", g.has(1, 2), -33);
        Check.due("of 2, 0 makes him", g.has(2, 1), 6);
        Check.due("of 2, lets be and loses nothing", g.has(2, 18), 6);
        g.pay(1, 6);
        Check.due("nothing left on it: no trade lost", g.has(0, 2), 33 - 30);
    }

    private static void holds() {
        SeizedGoods g = Check.landed(COUNCIL);
        Check.due("town", g.holds(0, 3, 5), Check.BAD);
        Check.due("town", g.holds(-1, 0, 5), Check.BAD);
        Check.due("alike", g.holds(1, 1, 5), Check.BAD);
        Check.due("w -1", g.holds(0, 1, -1), Check.BAD);
        Check.due("w 100", g.holds(0, 1, 100), Check.BAD);
        Check.due("nothing due", g.holds(0, 1, 0), 1);
        g.debt(0, 1, 10);
        // Town 1 has 10 on town 0: 10 (100 - w) <= 40 w: from w = 20 on.
        Check.due("19", g.holds(0, 1, 19), 0);
        Check.due("20", g.holds(0, 1, 20), 1);
        Check.due("20 the other way", g.holds(1, 0, 20), 1);
        Check.due("19 the other way", g.holds(1, 0, 19), 0);
        Check.due("99", g.holds(0, 1, 99), 1);
        Check.due("0", g.holds(0, 1, 0), 0);
        g.debt(1, 3, 30);
        // Town 0 has 30 on town 1: 30 (100 - w) <= 30 w: from w = 50 on.
        Check.due("49", g.holds(0, 1, 49), 0);
        Check.due("50", g.holds(1, 0, 50), 1);
        Check.due("a third", g.holds(0, 2, 0), 1);
        g.debt(0, 3, 999);
        Check.due("within one town", g.holds(1, 0, 50), 1);
        SeizedGoods poor = Check.landed("town 0;town 9;man 0;man 1;");
        poor.debt(0, 1, 999);
        Check.due("no trade", poor.holds(0, 1, 99), 0);
    }

    private static void reform() {
        SeizedGoods none = new SeizedGoods();
        Check.due("no land", none.reform(1), Check.STATE);
        Check.due("bad ahead", none.reform(0), Check.BAD);
        SeizedGoods g = Check.landed("town 1;town 1;man 0;man 0;man 1;road 0 1;law 0 3 10 1 1;");
        Check.due("n 0", g.reform(0), Check.BAD);
        Check.due("n 11", g.reform(11), Check.BAD);
        Check.due("nothing owed", g.reform(10), 0);
        // 1 owes 2; both 0 and 1 are where 2 comes.
        g.debt(1, 2, 100);
        g.goes(2, 0);
        // ASKED 0: man 0 is seized; without BACK nothing is bred, MOST 100 leaves none: 12.
        Check.due("one day", g.reform(1), 12);
        Check.due("law stays", g.law(0, 0), 3);
        Check.due("law stays", g.law(0, 1), 10);
        g.goes(0, 1);
        // Now only who owes is there: nothing is bred, and asking is not needed: still 12.
        Check.due("who owes", g.reform(1), 12);
    }

    private static void reformTies() {
        // 1 left in all: every MOST takes it: the least number.
        SeizedGoods g = Check.landed("town 1;town 1;man 0;man 0;man 1;road 0 1;law 0 3 10 1 1;");
        g.debt(1, 2, 1);
        g.goes(2, 0);
        Check.due("least number", g.reform(1), 0);
        // Two: 25, 50 and 75 take 1 a day, 100 takes 2; in two days all take 2.
        SeizedGoods two = Check.landed("town 1;town 1;man 0;man 0;man 1;road 0 1;");
        two.debt(1, 2, 2);
        two.goes(2, 0);
        Check.due("2 in a day", two.reform(1), 12);
        Check.due("2 in two days", two.reform(2), 0);
        // 0 of town 0 owes 1 of town 1, who is at town 2, where 2 of town 0 is: only BACK 0 helps.
        SeizedGoods three = Check.landed("town 1;town 1;town 1;man 0;man 1;man 0;road 0 2;road 1 2;");
        three.debt(0, 1, 4);
        three.goes(1, 2);
        three.goes(2, 2);
        three.ask(0);
        Check.due("in a day", three.reform(1), 12);
        Check.due("in two days: 75 takes 3, then 1", three.reform(2), 8);
        // A letter for 2 would leave more than no letter: a law without one is better.
        three.letter(0, 2, 9);
        Check.due("with a letter", three.reform(1), 12);
    }

    private static void images() {
        SeizedGoods g = new SeizedGoods();
        Check.due("no land", g.image(0), Check.STATE);
        Check.due("bad ahead", g.image(2), Check.BAD);
        Check.due("none kept", g.restore(0), Check.STATE);
        Check.due("bad ahead", g.restore(-1), Check.BAD);
        Check.read(g, "town 5;town 6;man 0;man 1;man 0;road 0 1;law 0 0 100 1 0;law 1 0 100 1 0;fair 0 90 95;");
        Check.due("k -1", g.image(-1), Check.BAD);
        Check.due("k 2", g.restore(2), Check.BAD);
        g.debt(0, 1, 10);
        g.ask(0);
        g.letter(0, 6, 6);
        g.swear(1, 0, 1);
        g.goes(1, 0);
        g.seize(0, 2, 3);
        g.later(4);
        Check.due("kept", g.image(0), 1);
        Check.due("the other one", g.restore(1), Check.STATE);
        g.sheet(0, 1, 9);
        Check.feed(g, "town 9;");
        g.seize(0, 0, 7);
        g.ask(1);
        g.letter(1, 9, 9);
        g.swear(1, 0, 0);
        g.swear(0, 1, 0);
        g.debt(2, 1, 99);
        g.goes(1, 1);
        g.pact(0, 1, 1);
        g.later(50);
        Check.due("kept, too", g.image(1), 1);
        Check.due("restored", g.restore(0), 1);
        Check.due("claims", g.count(6), 2);
        Check.due("paid", g.count(7), 0);
        Check.due("seized", g.count(8), 3);
        Check.due("day", g.count(9), 4);
        Check.due("pacts", g.count(5), 0);
        Check.due("sheets stay", g.count(0), 1);
        Check.due("the tape stays", g.count(10), 7);
        Check.due("at", g.man(1, 1), 0);
        int[] want = {1, 0, 10, 7, 0, 1, 6, 6, Check.NONE};
        for (int what = 0; what <= 8; what++) {
            Check.due("claim " + what, g.claim(0, what), want[what]);
        }
        Check.due("bred", g.claim(1, 8), 0);
        Check.due("not asked", g.claim(1, 5), 0);
        Check.due("no letter", g.claim(1, 6), Check.NONE);
        Check.due("oath", g.swear(1, 0, 1), 1);
        Check.due("no oath", g.swear(0, 1, 1), Check.NONE);
        g.pay(0, 7);
        Check.due("restored again", g.restore(0), 1);
        Check.due("left", g.claim(0, 3), 7);
        Check.due("restored the other", g.restore(1), 1);
        Check.due("claims", g.count(6), 3);
        Check.due("day", g.count(9), 54);
        Check.due("pacts", g.count(5), 1);
        Check.due("paid", g.count(7), 1);
    }

    private static void imagesOfLands() {
        SeizedGoods g = Check.landed("town 5;town 6;man 0;man 1;road 0 1;law 1 3 7 0 1;fair 0 1 2;pact 0 1;");
        g.debt(0, 1, 10);
        g.image(1);
        Check.due("another land", Check.read(g, "town 7;town 8;town 9;man 2;"), 3);
        Check.due("image outlives it", g.restore(1), 1);
        int[] counts = {0, 2, 2, 1, 1, 1, 1, 0, 0, 0, 0};
        for (int what = 0; what <= 10; what++) {
            Check.due("count " + what, g.count(what), counts[what]);
        }
        Check.due("trade", g.law(0, 4), 5);
        Check.due("law", g.law(1, 1), 7);
        Check.due("road", g.goes(0, 1), 1);
        Check.due("a faulty text", Check.read(g, "x"), -1000100);
        Check.due("restored", g.restore(1), 1);
        Check.due("kept in place of it", g.image(1), 1);
    }

    /** All of a claim is kept, though others have stood in its place since; and all four fairs. */
    private static void imagesOfClaims() {
        String text = "town 5;town 6;man 0;man 1;man 0;man 1;road 0 1;law 0 0 100 1 0;";
        SeizedGoods g = Check.landed(text + "fair 1 0 1;fair 1 2 3;fair 1 4 5;fair 0 9 10;");
        g.debt(0, 1, 10);
        g.ask(0);
        g.letter(0, 6, 6);
        g.swear(1, 0, 1);
        g.goes(1, 0);
        Check.due("bred", g.seize(0, 2, 3), 1);
        Check.due("kept", g.image(0), 1);
        Check.read(g, text);
        g.debt(2, 3, 700);
        g.debt(3, 2, 800);
        Check.due("restored", g.restore(0), 1);
        int[] first = {1, 0, 10, 7, 0, 1, 6, 6, Check.NONE};
        int[] second = {2, 0, 3, 3, 1, 0, Check.NONE, Check.NONE, 0};
        for (int what = 0; what <= 8; what++) {
            Check.due("first " + what, g.claim(0, what), first[what]);
            Check.due("second " + what, g.claim(1, what), second[what]);
        }
        Check.due("oath", g.swear(1, 0, 1), 1);
        Check.due("fairs", g.count(4), 4);
        g.later(8);
        Check.due("ahead of the fourth fair", g.may(0, 2, 0), 0);
        g.later(1);
        Check.due("the fourth fair", g.may(0, 2, 0), 5);
        // Days 9 and 10 are a fair, day 11 is none: a copy knows of it, too.
        Check.due("nothing in two days", g.grown(2, 1), 0);
        Check.due("something in three", g.grown(3, 1), 7);
    }
}
