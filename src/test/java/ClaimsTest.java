/** Promises 14 to 23. */
public final class ClaimsTest {
    /** Two men each of three towns; all towns joined; seizing needs no asking. */
    private static final String OPEN = "town 10;town 20;town 30;man 0;man 0;man 1;man 1;man 2;man 2;"
        + "road 0 1;road 1 2;road 0 2;law 0 0 100 1 0;law 1 0 100 1 0;law 2 0 100 1 0;";

    public static void main(String[] args) {
        debt();
        debts();
        ask();
        letter();
        pay();
        words();
        wordOrder();
        most();
        seize();
        seizeByLetter();
        seizeWithoutRoom();
        swear();
        says();
        Check.end();
    }

    private static void debt() {
        SeizedGoods g = Check.landed(OPEN);
        Check.due("who -1", g.debt(-1, 0, 1), Check.BAD);
        Check.due("who 6", g.debt(6, 0, 1), Check.BAD);
        Check.due("whom -1", g.debt(0, -1, 1), Check.BAD);
        Check.due("whom 6", g.debt(0, 6, 1), Check.BAD);
        Check.due("alike", g.debt(0, 0, 1), Check.BAD);
        Check.due("sum 0", g.debt(0, 1, 0), Check.BAD);
        Check.due("sum 1000", g.debt(0, 1, 1000), Check.BAD);
        Check.due("none", g.count(6), 0);
        Check.due("sum 999", g.debt(0, 3, 999), 0);
        Check.due("sum 1", g.debt(4, 2, 1), 1);
        int[] want = {3, 0, 999, 999, 0, 0, Check.NONE, Check.NONE, Check.NONE};
        for (int what = 0; what <= 8; what++) {
            Check.due("claim 0 " + what, g.claim(0, what), want[what]);
        }
        Check.due("what -1", g.claim(0, -1), Check.BAD);
        Check.due("what 9", g.claim(0, 9), Check.BAD);
        Check.due("claim -1", g.claim(-1, 0), Check.BAD);
        Check.due("claim 2", g.claim(2, 0), Check.BAD);
        for (int k = 2; k < 24; k++) {
            Check.due("debt " + k, g.debt(0, 1, k), k);
        }
        Check.due("full", g.debt(0, 1, 1), Check.FULL);
        Check.due("bad ahead of full", g.debt(0, 0, 1), Check.BAD);
        Check.due("24", g.count(6), 24);
    }

    private static void debts() {
        SeizedGoods g = Check.landed(OPEN);
        Check.due("sheet -1", g.debts(-1, 0, 1), Check.BAD);
        Check.due("sheet 8", g.debts(8, 0, 1), Check.BAD);
        Check.due("n 0", g.debts(0, 0, 0), Check.BAD);
        Check.due("n 11", g.debts(0, 0, 11), Check.BAD);
        Check.due("missing", g.debts(0, 0, 10), Check.NULL);
        g.sheet(0, 1, 40);
        Check.due("i below 0", g.debts(0, -1, 1), Check.PLACE);
        Check.due("beyond", g.debts(0, 11, 10), Check.PLACE);
        Check.due("far beyond", g.debts(0, Integer.MAX_VALUE, 10), Check.PLACE);
        Check.due("items of 0", g.debts(0, 10, 10), Check.BAD);
        for (int row = 0; row < 10; row++) {
            g.set(0, 10 + 3 * row, row % 6);
            g.set(0, 11 + 3 * row, (row + 1) % 6);
            g.set(0, 12 + 3 * row, 100 + row);
        }
        Check.due("ten", g.debts(0, 10, 10), 10);
        Check.due("who owes", g.claim(4, 1), 4);
        Check.due("who has", g.claim(4, 0), 5);
        Check.due("sum", g.claim(4, 2), 104);
        Check.due("twenty", g.debts(0, 10, 10), 20);
        Check.due("not room for all", g.debts(0, 10, 5), Check.FULL);
        Check.due("none came", g.count(6), 20);
        g.set(0, 24, 0);
        Check.due("bad ahead of full", g.debts(0, 10, 5), Check.BAD);
        Check.due("room for four", g.debts(0, 10, 4), 24);
        Check.due("full", g.debts(0, 10, 1), Check.FULL);
        badItems();
    }

    private static void badItems() {
        int[][] rows = {{-1, 0, 5}, {6, 0, 5}, {0, -1, 5}, {0, 6, 5}, {2, 2, 5}, {0, 1, 0}, {0, 1, 1000}, {0, 1, -5}};
        for (int[] row : rows) {
            SeizedGoods g = Check.landed(OPEN);
            g.sheet(3, 2, 6);
            g.set(3, 0, 1);
            g.set(3, 1, 2);
            g.set(3, 2, 3);
            for (int k = 0; k < 3; k++) {
                g.set(3, 3 + k, row[k]);
            }
            Check.due("bad second row", g.debts(3, 0, 2), Check.BAD);
            Check.due("none came", g.count(6), 0);
            Check.due("good first row", g.debts(3, 0, 1), 1);
        }
        SeizedGoods none = new SeizedGoods();
        none.sheet(0, 0, 3);
        none.set(0, 1, 1);
        none.set(0, 2, 1);
        Check.due("no land, no men", none.debts(0, 0, 1), Check.BAD);
        Check.due("no land, place", none.debts(0, 1, 1), Check.PLACE);
    }

    private static void ask() {
        SeizedGoods g = Check.landed(OPEN);
        g.debt(0, 2, 5);
        Check.due("claim -1", g.ask(-1), Check.BAD);
        Check.due("claim 1", g.ask(1), Check.BAD);
        Check.due("once", g.ask(0), 1);
        Check.due("twice", g.ask(0), 2);
        Check.due("told", g.claim(0, 5), 2);
        g.pay(0, 5);
        Check.due("paid", g.ask(0), Check.STATE);
        Check.due("as it was", g.claim(0, 5), 2);
    }

    private static void letter() {
        SeizedGoods g = Check.landed(OPEN);
        g.debt(0, 2, 5);
        Check.due("claim -1", g.letter(-1, 1, 1), Check.BAD);
        Check.due("claim 1", g.letter(1, 1, 1), Check.BAD);
        Check.due("sum 0", g.letter(0, 0, 1), Check.BAD);
        Check.due("sum 1000", g.letter(0, 1000, 1), Check.BAD);
        Check.due("n -1", g.letter(0, 1, -1), Check.BAD);
        Check.due("n 100", g.letter(0, 1, 100), Check.BAD);
        Check.due("none yet", g.claim(0, 6), Check.NONE);
        g.later(50);
        Check.due("for 99", g.letter(0, 999, 99), 149);
        Check.due("left of it", g.claim(0, 7), 999);
        Check.due("in its place", g.letter(0, 3, 0), 50);
        Check.due("left of that", g.claim(0, 7), 3);
        Check.due("last day", g.claim(0, 6), 50);
        g.pay(0, 5);
        Check.due("paid", g.letter(0, 1, 1), Check.STATE);
        Check.due("bad ahead", g.letter(0, 0, 1), Check.BAD);
        SeizedGoods late = Check.landed(OPEN);
        late.debt(0, 2, 5);
        for (int k = 0; k < 9; k++) {
            late.later(100);
        }
        late.later(99);
        Check.due("beyond the last day", late.letter(0, 3, 99), 1098);
    }

    private static void pay() {
        SeizedGoods g = Check.landed(OPEN);
        g.debt(0, 2, 50);
        Check.due("claim -1", g.pay(-1, 1), Check.BAD);
        Check.due("claim 1", g.pay(1, 1), Check.BAD);
        Check.due("sum 0", g.pay(0, 0), Check.BAD);
        Check.due("sum 1000", g.pay(0, 1000), Check.BAD);
        Check.due("some", g.pay(0, 20), 30);
        Check.due("sum stays", g.claim(0, 2), 50);
        Check.due("left", g.claim(0, 3), 30);
        Check.due("not paid", g.count(7), 0);
        Check.due("as much as is left", g.pay(0, 999), 0);
        Check.due("paid", g.count(7), 1);
        Check.due("again", g.pay(0, 1), 0);
        Check.due("nothing seized", g.count(8), 0);
    }

    private static void words() {
        SeizedGoods g = Check.landed(OPEN.replace("law 2 0 100 1 0;", "law 2 2 100 1 1;fair 0 3 4;"));
        g.debt(0, 2, 50);
        Check.due("claim", g.may(1, 0, 0), Check.BAD);
        Check.due("claim", g.may(-1, 0, 0), Check.BAD);
        Check.due("man", g.may(0, 6, 0), Check.BAD);
        Check.due("man", g.may(0, -1, 0), Check.BAD);
        Check.due("what", g.may(0, 0, 2), Check.BAD);
        Check.due("what", g.may(0, 0, -1), Check.BAD);
        word(g, 0, 2, "who has it is elsewhere");
        g.goes(2, 0);
        word(g, 0, 0, "lawful");
        word(g, 1, 0, "lawful, of his town");
        word(g, 2, 3, "has it");
        g.goes(3, 0);
        word(g, 3, 3, "of the town of who has it");
        g.goes(4, 0);
        word(g, 4, 6, "of a third town");
        g.pact(0, 1, 1);
        word(g, 0, 4, "pact");
        word(g, 4, 6, "no pact of a third town");
        g.pact(0, 1, 0);
        g.pact(1, 2, 1);
        word(g, 0, 0, "pact with a third town");
        word(g, 4, 4, "pact of the third town");
        g.pact(1, 2, 0);
        g.later(2);
        word(g, 0, 0, "the day ahead of the fair");
        g.later(1);
        word(g, 0, 5, "first day of the fair");
        g.later(1);
        word(g, 0, 5, "last day of the fair");
        g.later(1);
        word(g, 0, 0, "the day behind the fair");
        Check.due("most", g.may(0, 0, 1), 50);
        g.pay(0, 50);
        word(g, 0, 1, "paid");
        Check.due("no most", g.may(0, 0, 1), Check.NONE);
    }

    private static void word(SeizedGoods g, int man, int want, String why) {
        Check.due(why, g.may(0, man, 0), want);
        if (want != 0) {
            Check.due(why + ": no most", g.may(0, man, 1), Check.NONE);
        }
    }

    /** One that lacks every word loses them one by one, in their order. */
    private static void wordOrder() {
        SeizedGoods g = Check.landed(OPEN.replace("law 2 0 100 1 0;", "law 2 2 100 1 1;fair 2 0 0;fair 0 0 9;pact 0 1;"));
        // 0 owes 2; man 1, of the town of who owes, is in town 2.
        g.debt(0, 2, 50);
        g.goes(1, 2);
        g.goes(0, 2);
        g.goes(4, 1);
        word(g, 1, 2, "who has it is elsewhere");
        g.goes(2, 2);
        word(g, 2, 3, "has it");
        word(g, 1, 4, "pact");
        g.pact(1, 0, 0);
        word(g, 1, 5, "fair of that town");
        word(g, 0, 5, "fair for who owes, too");
        g.goes(4, 2);
        word(g, 4, 5, "fair ahead of a third town");
        g.later(1);
        word(g, 4, 6, "third town");
        word(g, 1, 7, "not asked");
        word(g, 0, 8, "who owes needs no asking, but a letter");
        g.ask(0);
        word(g, 1, 7, "asked once only");
        g.ask(0);
        word(g, 1, 8, "no letter");
        g.letter(0, 7, 1);
        word(g, 1, 0, "lawful");
        g.later(1);
        word(g, 1, 0, "its last day");
        g.later(1);
        word(g, 1, 8, "its last day is over");
        g.letter(0, 7, 1);
        Check.due("seized all of the letter", g.seize(0, 1, 7), 1);
        word(g, 1, 8, "nothing left of it");
        word(g, 0, 8, "nothing left of it");
        g.goes(1, 0);
        g.goes(2, 0);
        word(g, 1, 5, "the fair of the other town");
        g.pay(0, 43);
        word(g, 1, 1, "paid ahead of all");
    }

    private static void most() {
        SeizedGoods g = Check.landed("town 1;town 1;man 0;man 1;road 0 1;law 0 0 33 1 0;law 1 0 50 0 1;");
        g.debt(0, 1, 100);
        g.goes(1, 0);
        Check.due("33 of 100", g.may(0, 0, 1), 33);
        g.pay(0, 1);
        Check.due("33 of 99, cut", g.may(0, 0, 1), 32);
        g.pay(0, 97);
        Check.due("33 of 2: 1 at least", g.may(0, 0, 1), 1);
        g.letter(0, 1, 9);
        g.debt(0, 1, 100);
        g.letter(1, 5, 9);
        Check.due("no letter wanted", g.may(1, 0, 1), 33);
        g.goes(1, 1);
        g.goes(0, 1);
        Check.due("no more than the letter", g.may(1, 0, 1), 5);
        g.letter(1, 60, 9);
        Check.due("no more than the law", g.may(1, 0, 1), 50);
        SeizedGoods all = Check.landed("town 1;town 1;man 0;man 1;road 0 1;law 0 0 100 1 0;");
        all.debt(0, 1, 999);
        all.goes(1, 0);
        Check.due("all of it", all.may(0, 0, 1), 999);
    }

    private static void seize() {
        SeizedGoods g = Check.landed(OPEN.replace("law 0 0 100 1 0;", "law 0 0 50 1 0;"));
        g.debt(0, 2, 100);
        Check.due("claim", g.seize(1, 0, 1), Check.BAD);
        Check.due("claim", g.seize(-1, 0, 1), Check.BAD);
        Check.due("man", g.seize(0, 6, 1), Check.BAD);
        Check.due("man", g.seize(0, -1, 1), Check.BAD);
        Check.due("sum 0", g.seize(0, 0, 0), Check.BAD);
        Check.due("sum 1000", g.seize(0, 0, 1000), Check.BAD);
        Check.due("not lawful", g.seize(0, 0, 1), Check.STATE);
        g.goes(2, 0);
        g.letter(0, 60, 5);
        Check.due("above most", g.seize(0, 1, 51), Check.STATE);
        Check.due("nothing yet", g.count(8), 0);
        Check.due("bred", g.seize(0, 1, 50), 1);
        Check.due("left", g.claim(0, 3), 50);
        Check.due("a letter that is not wanted stays", g.claim(0, 7), 60);
        Check.due("seized", g.count(8), 50);
        int[] want = {1, 0, 50, 50, 1, 0, Check.NONE, Check.NONE, 0};
        for (int what = 0; what <= 8; what++) {
            Check.due("bred " + what, g.claim(1, what), want[what]);
        }
        Check.due("who owes breeds none", g.seize(0, 0, 25), Check.NONE);
        Check.due("seized in all", g.count(8), 75);
        Check.due("left", g.claim(0, 3), 25);
        Check.due("claims", g.count(6), 2);
        Check.due("a smaller sum", g.seize(0, 1, 1), 2);
        Check.due("its sum", g.claim(2, 2), 1);
        g.goes(2, 1);
        g.goes(1, 1);
        SeizedGoods noBack = Check.landed(OPEN.replace("law 0 0 100 1 0;", "law 0 0 100 0 0;"));
        noBack.debt(0, 2, 9);
        noBack.goes(2, 0);
        Check.due("no back", noBack.seize(0, 1, 9), Check.NONE);
        Check.due("none bred", noBack.count(6), 1);
        Check.due("paid by it", noBack.count(7), 1);
        Check.due("paid", noBack.seize(0, 1, 1), Check.STATE);
    }

    /** The law is of the town where it is done, not of anyone's home. */
    private static void seizeByLetter() {
        SeizedGoods g = Check.landed(OPEN.replace("law 2 0 100 1 0;", "law 2 0 50 1 1;"));
        g.debt(0, 2, 40);
        g.goes(2, 2);
        g.goes(1, 2);
        g.letter(0, 15, 3);
        Check.due("above the letter", g.seize(0, 1, 16), Check.STATE);
        Check.due("of the letter", g.seize(0, 1, 10), 1);
        Check.due("left of the letter", g.claim(0, 7), 5);
        Check.due("last day stays", g.claim(0, 6), 3);
        Check.due("left", g.claim(0, 3), 30);
        Check.due("the rest", g.may(0, 1, 1), 5);
    }

    private static void seizeWithoutRoom() {
        SeizedGoods g = Check.landed(OPEN);
        for (int k = 0; k < 24; k++) {
            g.debt(0, 2, 10);
        }
        g.goes(2, 0);
        Check.due("no room to breed", g.seize(3, 1, 4), Check.NONE);
        Check.due("left", g.claim(3, 3), 6);
        Check.due("seized", g.count(8), 4);
        Check.due("claims", g.count(6), 24);
    }

    private static void swear() {
        SeizedGoods g = Check.landed(OPEN);
        g.debt(0, 2, 10);
        g.debt(0, 2, 10);
        Check.due("town", g.swear(3, 0, 1), Check.BAD);
        Check.due("town", g.swear(-1, 0, 1), Check.BAD);
        Check.due("claim", g.swear(0, 2, 1), Check.BAD);
        Check.due("claim", g.swear(0, -1, 1), Check.BAD);
        Check.due("paid", g.swear(0, 0, 2), Check.BAD);
        Check.due("paid", g.swear(0, 0, -1), Check.BAD);
        Check.due("none ahead", g.swear(2, 0, 0), Check.NONE);
        Check.due("0 ahead", g.swear(2, 0, 1), 0);
        Check.due("1 ahead", g.swear(2, 0, 1), 1);
        Check.due("1 ahead", g.swear(2, 0, 0), 1);
        Check.due("of another town", g.swear(1, 0, 0), Check.NONE);
        Check.due("of another claim", g.swear(2, 1, 0), Check.NONE);
        g.pay(0, 10);
        Check.due("of a paid one", g.swear(0, 0, 1), Check.NONE);
    }

    private static void says() {
        SeizedGoods g = Check.landed(OPEN);
        g.debt(0, 2, 10);
        Check.due("claim", g.says(1), Check.BAD);
        Check.due("claim", g.says(-1), Check.BAD);
        Check.due("nobody", g.says(0), 0);
        g.swear(2, 0, 1);
        Check.due("a third only", g.says(0), 0);
        g.swear(0, 0, 0);
        Check.due("who owes: not paid", g.says(0), 2);
        g.swear(0, 0, 1);
        Check.due("who owes: paid", g.says(0), 1);
        g.swear(1, 0, 1);
        Check.due("both: paid", g.says(0), 1);
        g.swear(1, 0, 0);
        Check.due("unlike, judge: paid", g.says(0), 4);
        g.swear(2, 0, 0);
        Check.due("unlike, judge: not", g.says(0), 5);
        g.swear(0, 0, 0);
        Check.due("both: not", g.says(0), 2);
        g.debt(0, 2, 10);
        g.swear(1, 1, 1);
        Check.due("who has it: paid", g.says(1), 1);
        g.swear(0, 1, 0);
        Check.due("unlike, no judge", g.says(1), 3);
        g.debt(0, 1, 10);
        g.swear(0, 2, 0);
        Check.due("one town of both", g.says(2), 2);
        g.swear(1, 2, 1);
        Check.due("one town of both", g.says(2), 2);
        SeizedGoods four = Check.landed("town 1;town 1;town 1;town 1;man 3;man 1;");
        four.debt(0, 1, 1);
        four.swear(3, 0, 1);
        four.swear(1, 0, 0);
        four.swear(2, 0, 0);
        Check.due("judge 2", four.says(0), 5);
        four.swear(0, 0, 1);
        Check.due("the least is judge", four.says(0), 4);
    }
}
