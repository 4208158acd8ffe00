/** Terms 2 (CLAIMS, SEIZURES, KINDS are in BoundsOfAskedTest), 3 (OATHS) and promises 14 to 23 at their bounds. */
public final class BoundsOfClaimsTest {
    /** Town 0 of men 0, 1, town 1 of men 2, 3, town 2 of men 4, 5; every man is at town 0, and any claim may be seized for. */
    private static final String OPEN = "town 1;town 1;town 1;man 0;man 0;man 1;man 1;man 2;man 2;road 0 1;road 0 2;";
    private static final int DEBTOR = 0, COUNTRYMAN = 1, HOLDER = 2, HIS_COUNTRYMAN = 3, STRANGER = 4;

    public static void main(String[] args) {
        claimsUpToTwentyFour();
        claimAsItBegins();
        debtsUpToTwentyFour();
        debtsItems();
        debtsOfEachRow();
        askedUpToTheLastCall();
        lettersInPlace();
        lettersOnTheLastDays();
        paidWhenNothingIsLeft();
        payNoMoreThanIsLeft();
        wordPaid();
        wordNotThere();
        wordHasItOrHisTown();
        wordPact();
        wordFair();
        wordFairOnTheFirstAndLastDays();
        wordFourFairs();
        wordOfAnotherTown();
        wordAsked();
        wordLetter();
        wordsInOrder();
        mostOfEachHundredth();
        mostOneAtLeast();
        mostOfALetter();
        mostByTheLawWhereHeIs();
        seizeFromOneToMost();
        seizeOfTheLetter();
        seizeBreeds();
        seizeBreedsNone();
        seizeWithRoomForOne();
        seizedAllInAll();
        oathsOfEachTown();
        saysOfTwoTowns();
        saysOfOneTown();
        saysJudge();
        Check.end();
    }

    private static SeizedGoods open(String laws) {
        SeizedGoods g = Check.landed(OPEN + laws);
        for (int man = 2; man < 6; man++) {
            Check.due("goes to town 0", g.goes(man, 0), 1);
        }
        return g;
    }

    /** Claim 0 of 100, for which half may be seized in town 0. */
    private static SeizedGoods half() {
        SeizedGoods g = open("law 0 0 50 1 0;");
        g.debt(DEBTOR, HOLDER, 100);
        return g;
    }

    private static void word(SeizedGoods g, String what, int man, int want) {
        Check.due(what, g.may(0, man, 0), want);
        Check.dueTrue(what + ": most", want == 0 ? g.may(0, man, 1) >= 1 : g.may(0, man, 1) == Check.NONE);
    }

    // CLAIMS 0 .. 23 (24 at most)
    private static void claimsUpToTwentyFour() {
        SeizedGoods g = Check.landed("town 1;man 0;man 0;");
        for (int claim = 0; claim < 24; claim++) {
            Check.due("not yet", g.claim(claim, 0), Check.BAD);
            Check.due("its number", g.debt(claim & 1, 1 - (claim & 1), 1 + claim), claim);
            Check.due("so many", g.count(6), claim + 1);
        }
        Check.due("full", g.debt(0, 1, 1), Check.FULL);
        Check.due("24", g.count(6), 24);
        for (int claim = 0; claim < 24; claim++) {
            Check.due("who has it", g.claim(claim, 0), 1 - (claim & 1));
            Check.due("who owes", g.claim(claim, 1), claim & 1);
            Check.due("sum", g.claim(claim, 2), 1 + claim);
        }
        g.pay(0, 999);
        Check.due("a paid one keeps its place", g.debt(0, 1, 1), Check.FULL);
        Check.due("no claim 24", g.claim(24, 0), Check.BAD);
    }

    private static void claimAsItBegins() {
        int[][] debts = {{0, 11, 1}, {11, 0, 999}, {5, 6, 500}};
        SeizedGoods g = Check.landed("town 1;" + "man 0;".repeat(12));
        for (int claim = 0; claim < 3; claim++) {
            int[] debt = debts[claim];
            g.debt(debt[0], debt[1], debt[2]);
            int[] due = {debt[1], debt[0], debt[2], debt[2], 0, 0, Check.NONE, Check.NONE, Check.NONE};
            for (int what = 0; what <= 8; what++) {
                Check.due("claim " + claim + " " + what, g.claim(claim, what), due[what]);
            }
            Check.due("no oaths", g.says(claim), 0);
        }
    }

    /** Sheet 0 of 40 ints: rows from item 10 on, man k owes man k + 1 the sum 100 + k. */
    private static void rows(SeizedGoods g) {
        g.sheet(0, 2, 40);
        for (int row = 0; row < 10; row++) {
            g.set(0, 10 + 3 * row, row);
            g.set(0, 11 + 3 * row, row + 1);
            g.set(0, 12 + 3 * row, 100 + row);
        }
    }

    // FULL: not room for all
    private static void debtsUpToTwentyFour() {
        for (int n = 1; n <= 10; n++) {
            for (int room = 0; room <= 11; room++) {
                SeizedGoods g = Check.landed("town 1;" + "man 0;".repeat(12));
                rows(g);
                for (int claim = 0; claim < 24 - room; claim++) {
                    g.debt(0, 1, 1);
                }
                Check.due(n + " rows, room for " + room, g.debts(0, 10, n), n <= room ? 24 - room + n : Check.FULL);
                Check.due("claims", g.count(6), n <= room ? 24 - room + n : 24 - room);
            }
        }
    }

    // then BAD: an ITEM: of each row, each of its three, with its bounds
    private static void debtsItems() {
        int[][] bad = {{-1, 12, Integer.MIN_VALUE, Integer.MAX_VALUE}, {-1, 12, Integer.MIN_VALUE, Integer.MAX_VALUE},
            {0, -1, 1000, Integer.MIN_VALUE, Integer.MAX_VALUE}};
        for (int row = 0; row < 10; row++) {
            for (int k = 0; k < 3; k++) {
                for (int item : bad[k]) {
                    SeizedGoods g = Check.landed("town 1;" + "man 0;".repeat(12));
                    rows(g);
                    g.set(0, 10 + 3 * row + k, item);
                    Check.due("row " + row + " item " + k + " = " + item, g.debts(0, 10, 10), Check.BAD);
                    Check.due("none came", g.count(6), 0);
                    Check.due("but those ahead are as told", row == 0 ? 0 : g.debts(0, 10, row), row);
                }
            }
            SeizedGoods g = Check.landed("town 1;" + "man 0;".repeat(12));
            rows(g);
            g.set(0, 10 + 3 * row, row + 1);
            Check.due("row " + row + " of one to himself", g.debts(0, 10, 10), Check.BAD);
        }
        int[][] good = {{0, 11, 1}, {11, 0, 999}, {1, 10, 2}, {10, 1, 998}};
        for (int[] row : good) {
            SeizedGoods g = Check.landed("town 1;" + "man 0;".repeat(12));
            g.sheet(0, 2, 3);
            for (int k = 0; k < 3; k++) {
                g.set(0, k, row[k]);
            }
            Check.due("as told", g.debts(0, 0, 1), 1);
            Check.due("who owes", g.claim(0, 1), row[0]);
            Check.due("whom", g.claim(0, 0), row[1]);
            Check.due("sum", g.claim(0, 2), row[2]);
        }
        // A man beyond those told is none, though twelve is the most there may be.
        SeizedGoods few = Check.landed("town 1;man 0;man 0;");
        rows(few);
        Check.due("men 0, 1", few.debts(0, 10, 1), 1);
        Check.due("men 1, 2", few.debts(0, 13, 1), Check.BAD);
    }

    private static void debtsOfEachRow() {
        SeizedGoods g = Check.landed("town 1;" + "man 0;".repeat(12));
        rows(g);
        Check.due("ten", g.debts(0, 10, 10), 10);
        for (int claim = 0; claim < 10; claim++) {
            int[] due = {claim + 1, claim, 100 + claim, 100 + claim, 0, 0, Check.NONE, Check.NONE, Check.NONE};
            for (int what = 0; what <= 8; what++) {
                Check.due("claim " + claim + " " + what, g.claim(claim, what), due[what]);
            }
        }
        Check.due("one more", g.debts(0, 37, 1), 11);
        Check.due("the last row", g.claim(10, 2), 109);
        Check.due("the sheet stays", g.drop(0), 40);
    }

    // The TOWN of who owes is ASKED once more: how often; an object is used for at most 512 calls
    private static void askedUpToTheLastCall() {
        SeizedGoods g = new SeizedGoods();
        Check.due("feed", g.feed(0x746F776E20313BL, 7), 7);
        Check.due("feed", g.feed(0x6D616E20303BL, 6), 13);
        Check.due("feed", g.feed(0x6D616E20303BL, 6), 19);
        Check.due("land", g.land(), 1);
        Check.due("debt", g.debt(0, 1, 999), 0);
        for (int times = 1; times <= 505; times++) {
            Check.due("asked", g.ask(0), times);
        }
        Check.due("how often", g.claim(0, 5), 505);
        Check.due("call 512", g.asks(0, 0), 999 * 506);
    }

    // A LETTER, in place of one that is there, for a SUM, for n DAYS more: its last DAY
    private static void lettersInPlace() {
        SeizedGoods g = half();
        Check.due("none", g.claim(0, 6), Check.NONE);
        Check.due("none", g.claim(0, 7), Check.NONE);
        int[][] letters = {{1, 0}, {999, 99}, {1, 99}, {999, 0}, {7, 7}};
        for (int[] letter : letters) {
            Check.due("last day", g.letter(0, letter[0], letter[1]), letter[1]);
            Check.due("last day", g.claim(0, 6), letter[1]);
            Check.due("left of it", g.claim(0, 7), letter[0]);
        }
        g.debt(DEBTOR, HOLDER, 5);
        Check.due("no letter of another one", g.claim(1, 6), Check.NONE);
        g.later(50);
        Check.due("stays when it is over", g.claim(0, 6), 7);
        Check.due("stays when it is over", g.claim(0, 7), 7);
        Check.due("from today", g.letter(0, 3, 1), 51);
        g.pay(0, 999);
        Check.due("stays when it is paid", g.claim(0, 6), 51);
        Check.due("stays when it is paid", g.claim(0, 7), 3);
    }

    private static void lettersOnTheLastDays() {
        SeizedGoods g = half();
        for (int k = 0; k < 9; k++) {
            g.later(100);
        }
        Check.due("to the last day", g.letter(0, 5, 99), 999);
        g.later(99);
        Check.due("on the last day", g.letter(0, 5, 0), 999);
        Check.due("beyond the last day", g.letter(0, 5, 1), 1000);
        Check.due("far beyond the last day", g.letter(0, 5, 99), 1098);
    }

    // what is LEFT of it (PAID, if that is 0)
    private static void paidWhenNothingIsLeft() {
        SeizedGoods g = Check.landed("town 1;man 0;man 0;");
        g.debt(0, 1, 2);
        Check.due("2 left", g.count(7), 0);
        g.pay(0, 1);
        Check.due("1 left", g.count(7), 0);
        Check.due("1 left", g.ask(0), 1);
        g.pay(0, 1);
        Check.due("0 left", g.count(7), 1);
        Check.due("0 left", g.ask(0), Check.STATE);
        Check.due("sum stays", g.claim(0, 2), 2);
        for (int claim = 1; claim < 24; claim++) {
            g.debt(0, 1, 1);
        }
        for (int claim = 1; claim < 24; claim++) {
            g.pay(claim, 1);
            Check.due("so many paid", g.count(7), claim + 1);
        }
        Check.due("all are claims still", g.count(6), 24);
    }

    // as much of it as is LEFT: what is LEFT
    private static void payNoMoreThanIsLeft() {
        int[][] cases = {{1, 1, 0}, {2, 1, 1}, {999, 999, 0}, {999, 998, 1}, {998, 999, 0}, {1, 999, 0}, {10, 9, 1}, {10, 10, 0},
            {10, 11, 0}};
        for (int[] one : cases) {
            SeizedGoods g = Check.landed("town 1;man 0;man 0;");
            g.debt(0, 1, one[0]);
            Check.due(one[1] + " of " + one[0], g.pay(0, one[1]), one[2]);
            Check.due("left", g.claim(0, 3), one[2]);
            Check.due("balance", g.man(1, 2), one[2]);
            Check.due("nothing is seized", g.count(8), 0);
        }
        SeizedGoods paid = Check.landed("town 1;man 0;man 0;");
        paid.debt(0, 1, 5);
        paid.pay(0, 5);
        Check.due("of a paid one", paid.pay(0, 1), 0);
        Check.due("of a paid one", paid.pay(0, 999), 0);
        Check.due("balance", paid.man(1, 2), 0);
    }

    // 1 it is PAID
    private static void wordPaid() {
        SeizedGoods g = half();
        g.pay(0, 99);
        word(g, "1 left", DEBTOR, 0);
        g.pay(0, 1);
        for (int man = 0; man < 6; man++) {
            word(g, "paid", man, 1);
        }
        SeizedGoods far = Check.landed(OPEN);
        far.debt(DEBTOR, HOLDER, 1);
        far.pay(0, 1);
        word(far, "paid, ahead of not there", DEBTOR, 1);
    }

    // 2 who has it is not AT that TOWN
    private static void wordNotThere() {
        SeizedGoods g = half();
        word(g, "there", DEBTOR, 0);
        g.goes(HOLDER, 2);
        for (int man = 0; man < 6; man++) {
            word(g, "elsewhere", man, man == HOLDER ? 3 : 2);
        }
        g.goes(DEBTOR, 2);
        // Town 2 asks once, but not of who owes.
        word(g, "both elsewhere", DEBTOR, 0);
        word(g, "not his countryman", COUNTRYMAN, 2);
        // The town that he is AT, not the one that he is OF.
        SeizedGoods home = Check.landed(OPEN + "law 1 0 100 1 0;");
        home.debt(DEBTOR, HOLDER, 9);
        word(home, "who has it is at his own town", DEBTOR, 2);
        home.goes(DEBTOR, 1);
        word(home, "he comes there", DEBTOR, 0);
    }

    // 3 the MAN has it, or is OF the TOWN that who has it is OF
    private static void wordHasItOrHisTown() {
        SeizedGoods g = half();
        word(g, "has it", HOLDER, 3);
        word(g, "of his town", HIS_COUNTRYMAN, 3);
        word(g, "of the debtor's town", COUNTRYMAN, 0);
        // Who owes is of the town of who has it, too.
        SeizedGoods one = open("law 0 0 50 1 0;");
        one.debt(DEBTOR, COUNTRYMAN, 9);
        word(one, "who owes, of the same town", DEBTOR, 3);
        word(one, "who has it", COUNTRYMAN, 3);
        word(one, "a stranger", STRANGER, 6);
    }

    // 4 these two TOWNS have a PACT
    private static void wordPact() {
        SeizedGoods g = half();
        g.pact(0, 1, 1);
        word(g, "pact, who owes", DEBTOR, 4);
        word(g, "pact, his countryman", COUNTRYMAN, 4);
        word(g, "who has it is ahead of it", HOLDER, 3);
        word(g, "no pact of a stranger", STRANGER, 6);
        g.pact(1, 0, 0);
        word(g, "no more", DEBTOR, 0);
        g.pact(0, 2, 1);
        word(g, "pact of the debtor's with a third", DEBTOR, 0);
        word(g, "none of a stranger with who has it", STRANGER, 6);
        g.pact(1, 2, 1);
        word(g, "pact of a stranger with who has it", STRANGER, 4);
        word(g, "pact of who has it with a third", DEBTOR, 0);
    }

    // 5 there is a FAIR that DAY
    private static void wordFair() {
        SeizedGoods g = open("law 0 0 50 1 0;fair 0 3 5;fair 1 0 999;");
        g.debt(DEBTOR, HOLDER, 100);
        for (int day = 0; day <= 8; day++) {
            boolean isFair = day >= 3 && day <= 5;
            word(g, "day " + day + " who owes", DEBTOR, isFair ? 5 : 0);
            word(g, "day " + day + " a stranger", STRANGER, isFair ? 5 : 6);
            word(g, "day " + day + " who has it", HOLDER, 3);
            g.later(1);
        }
        // The fair of a town counts in that town alone.
        g.goes(HOLDER, 1);
        g.goes(DEBTOR, 1);
        word(g, "the fair of the other town", DEBTOR, 5);
    }

    private static void wordFairOnTheFirstAndLastDays() {
        SeizedGoods first = open("law 0 0 50 1 0;fair 0 0 0;");
        first.debt(DEBTOR, HOLDER, 100);
        word(first, "day 0", DEBTOR, 5);
        first.later(1);
        word(first, "day 1", DEBTOR, 0);
        SeizedGoods last = open("law 0 0 50 1 0;fair 0 999 999;");
        last.debt(DEBTOR, HOLDER, 100);
        for (int k = 0; k < 9; k++) {
            last.later(100);
        }
        last.later(98);
        word(last, "day 998", DEBTOR, 0);
        last.later(1);
        word(last, "day 999", DEBTOR, 5);
    }

    private static void wordFourFairs() {
        SeizedGoods g = open("law 0 0 50 1 0;fair 0 6 7;fair 0 0 1;fair 0 3 3;fair 0 3 4;");
        g.debt(DEBTOR, HOLDER, 100);
        int[] due = {5, 5, 0, 5, 5, 0, 5, 5, 0};
        for (int day = 0; day < due.length; day++) {
            word(g, "day " + day, DEBTOR, due[day]);
            g.later(1);
        }
    }

    // 6 the MAN does not owe it, nor is OF the TOWN of who does
    private static void wordOfAnotherTown() {
        SeizedGoods g = half();
        word(g, "owes it", DEBTOR, 0);
        word(g, "of the town of who does", COUNTRYMAN, 0);
        word(g, "of another town", STRANGER, 6);
        word(g, "of another town", 5, 6);
        // OF, not AT: all of them are at the debtor's town.
        Check.due("at the debtor's town", g.man(STRANGER, 1), g.man(DEBTOR, 0));
    }

    // 7 he does not owe it, and it was ASKED less than ASKED
    private static void wordAsked() {
        for (int wants = 0; wants <= 3; wants++) {
            SeizedGoods g = open("law 0 " + wants + " 50 1 0;law 1 3 1 0 1;law 2 3 1 0 1;");
            g.debt(DEBTOR, HOLDER, 100);
            for (int asked = 0; asked <= 4; asked++) {
                word(g, "asked " + asked + " of " + wants, COUNTRYMAN, asked < wants ? 7 : 0);
                word(g, "who owes need not be asked for", DEBTOR, 0);
                word(g, "a stranger", STRANGER, 6);
                g.ask(0);
            }
        }
    }

    // 8 the LAW wants a LETTER (1), and there is none, its last DAY is over, or nothing is left of it
    private static void wordLetter() {
        SeizedGoods g = open("law 0 1 50 1 1;");
        g.debt(DEBTOR, HOLDER, 100);
        word(g, "none", DEBTOR, 8);
        word(g, "not asked, ahead of it", COUNTRYMAN, 7);
        g.ask(0);
        word(g, "none", COUNTRYMAN, 8);
        g.letter(0, 1, 0);
        word(g, "its last day is today", DEBTOR, 0);
        word(g, "its last day is today", COUNTRYMAN, 0);
        g.later(1);
        word(g, "it is over", DEBTOR, 8);
        word(g, "it is over", COUNTRYMAN, 8);
        g.letter(0, 2, 1);
        word(g, "its last day is tomorrow", COUNTRYMAN, 0);
        g.seize(0, DEBTOR, 1);
        word(g, "1 is left of it", COUNTRYMAN, 0);
        g.seize(0, DEBTOR, 1);
        word(g, "nothing is left of it", COUNTRYMAN, 8);
        word(g, "nothing is left of it", DEBTOR, 8);
        g.letter(0, 1, 99);
        word(g, "a new one", DEBTOR, 0);
        // Where the law does not want one, none of this counts.
        SeizedGoods free = half();
        free.letter(0, 1, 0);
        free.later(1);
        word(free, "over, and not wanted", DEBTOR, 0);
    }

    /** A seizure that lacks all of words 1 to 8 gets them one by one. */
    private static void wordsInOrder() {
        SeizedGoods g = Check.landed(OPEN + "law 0 1 50 1 1;fair 0 0 0;pact 0 1;pact 1 2;");
        // Claim 0 is paid and its holder away; claim 1 likewise, but not paid.
        g.debt(DEBTOR, HOLDER, 10);
        g.debt(DEBTOR, HOLDER, 10);
        g.pay(0, 10);
        Check.due("1 ahead of 2", g.may(0, STRANGER, 0), 1);
        Check.due("2 ahead of 4", g.may(1, COUNTRYMAN, 0), 2);
        g.goes(STRANGER, 0);
        g.goes(HIS_COUNTRYMAN, 0);
        Check.due("2 ahead of 3", g.may(1, HIS_COUNTRYMAN, 0), 2);
        g.goes(HOLDER, 0);
        Check.due("3 ahead of 5", g.may(1, HIS_COUNTRYMAN, 0), 3);
        Check.due("3 ahead of 5", g.may(1, HOLDER, 0), 3);
        Check.due("4 ahead of 5", g.may(1, COUNTRYMAN, 0), 4);
        Check.due("4 ahead of 5, 6", g.may(1, STRANGER, 0), 4);
        g.pact(1, 2, 0);
        Check.due("5 ahead of 6", g.may(1, STRANGER, 0), 5);
        g.pact(0, 1, 0);
        Check.due("5 ahead of 7", g.may(1, COUNTRYMAN, 0), 5);
        Check.due("5 ahead of 8", g.may(1, DEBTOR, 0), 5);
        g.later(1);
        Check.due("6 ahead of 7", g.may(1, STRANGER, 0), 6);
        Check.due("7 ahead of 8", g.may(1, COUNTRYMAN, 0), 7);
        Check.due("8", g.may(1, DEBTOR, 0), 8);
        g.ask(1);
        Check.due("8", g.may(1, COUNTRYMAN, 0), 8);
        g.letter(1, 1, 0);
        Check.due("lawful", g.may(1, COUNTRYMAN, 0), 0);
    }

    // MOST hundredths of what is LEFT; all that is divided is cut towards 0
    private static void mostOfEachHundredth() {
        for (int hundredths : new int[] {1, 2, 33, 50, 99, 100}) {
            SeizedGoods g = open("law 0 0 " + hundredths + " 0 0;");
            int claim = 0;
            for (int left : new int[] {1, 2, 3, 49, 50, 51, 99, 100, 101, 199, 200, 998, 999}) {
                g.debt(DEBTOR, HOLDER, left);
                int due = left * hundredths / 100 < 1 ? 1 : left * hundredths / 100;
                Check.due(hundredths + " of " + left, g.may(claim, DEBTOR, 1), due);
                claim++;
            }
        }
    }

    // 1 at least
    private static void mostOneAtLeast() {
        SeizedGoods g = open("law 0 0 1 0 0;");
        g.debt(DEBTOR, HOLDER, 200);
        Check.due("2", g.may(0, DEBTOR, 1), 2);
        g.pay(0, 1);
        Check.due("1.99", g.may(0, DEBTOR, 1), 1);
        g.pay(0, 99);
        Check.due("1", g.may(0, DEBTOR, 1), 1);
        g.pay(0, 1);
        Check.due("0.99", g.may(0, DEBTOR, 1), 1);
        g.pay(0, 98);
        Check.due("0.01", g.may(0, DEBTOR, 1), 1);
        Check.due("the last one", g.seize(0, DEBTOR, 1), Check.NONE);
        Check.due("paid", g.may(0, DEBTOR, 1), Check.NONE);
    }

    // no more than what is left of the LETTER, if the LAW wants one
    private static void mostOfALetter() {
        SeizedGoods g = open("law 0 0 50 0 1;");
        g.debt(DEBTOR, HOLDER, 100);
        int[][] cases = {{1, 1}, {49, 49}, {50, 50}, {51, 50}, {999, 50}};
        for (int[] one : cases) {
            g.letter(0, one[0], 0);
            Check.due("letter for " + one[0], g.may(0, DEBTOR, 1), one[1]);
        }
        SeizedGoods free = half();
        free.letter(0, 1, 9);
        Check.due("it does not want one", free.may(0, DEBTOR, 1), 50);
    }

    // by the LAW of the TOWN that he is AT
    private static void mostByTheLawWhereHeIs() {
        SeizedGoods g = Check.landed(OPEN + "law 0 0 10 1 0;law 1 0 20 1 0;law 2 0 30 0 0;");
        g.debt(DEBTOR, HOLDER, 100);
        g.goes(DEBTOR, 1);
        Check.due("in town 1", g.may(0, DEBTOR, 1), 20);
        g.goes(DEBTOR, 0);
        g.goes(HOLDER, 0);
        Check.due("in town 0", g.may(0, DEBTOR, 1), 10);
        g.goes(DEBTOR, 2);
        g.goes(HOLDER, 2);
        g.goes(COUNTRYMAN, 2);
        Check.due("in town 2", g.may(0, DEBTOR, 1), 30);
        Check.due("without back, in town 2", g.seize(0, COUNTRYMAN, 30), Check.NONE);
        g.goes(COUNTRYMAN, 0);
        g.goes(HOLDER, 0);
        Check.due("with back, in town 0", g.seize(0, COUNTRYMAN, 7), 1);
    }

    // Goods SEIZED for a SUM (1 to MOST): LEFT becomes so much less
    private static void seizeFromOneToMost() {
        for (int sum : new int[] {1, 2, 49, 50, 51, 100, 999}) {
            SeizedGoods g = half();
            boolean isLawful = sum <= 50;
            Check.due("seize " + sum, g.seize(0, DEBTOR, sum), isLawful ? Check.NONE : Check.STATE);
            Check.due("left", g.claim(0, 3), isLawful ? 100 - sum : 100);
            Check.due("sum stays", g.claim(0, 2), 100);
            Check.due("seized", g.count(8), isLawful ? sum : 0);
        }
        SeizedGoods all = open("law 0 0 100 1 0;");
        all.debt(DEBTOR, HOLDER, 999);
        Check.due("all of the greatest", all.seize(0, DEBTOR, 999), Check.NONE);
        Check.due("paid", all.count(7), 1);
        Check.due("nothing more", all.seize(0, DEBTOR, 1), Check.STATE);
    }

    // of the LETTER too, if the LAW wants one
    private static void seizeOfTheLetter() {
        SeizedGoods g = open("law 0 0 50 1 1;");
        g.debt(DEBTOR, HOLDER, 100);
        g.letter(0, 20, 4);
        Check.due("more than the letter", g.seize(0, DEBTOR, 21), Check.STATE);
        Check.due("19", g.seize(0, DEBTOR, 19), Check.NONE);
        Check.due("1 is left of it", g.claim(0, 7), 1);
        Check.due("the last one", g.seize(0, COUNTRYMAN, 1), 1);
        Check.due("nothing is left of it", g.claim(0, 7), 0);
        Check.due("its last day stays", g.claim(0, 6), 4);
        Check.due("left", g.claim(0, 3), 80);
        Check.due("no more", g.seize(0, DEBTOR, 1), Check.STATE);
        SeizedGoods free = half();
        free.letter(0, 20, 4);
        Check.due("it does not want one", free.seize(0, DEBTOR, 50), Check.NONE);
        Check.due("all is left of it", free.claim(0, 7), 20);
        // Paying is not seizing.
        free.pay(0, 10);
        Check.due("all is left of it", free.claim(0, 7), 20);
    }

    // a CLAIM is BRED: of that MAN on who owes, of that SUM, ASKED 0 times
    private static void seizeBreeds() {
        SeizedGoods g = half();
        g.ask(0);
        g.letter(0, 9, 9);
        g.swear(0, 0, 1);
        for (int sum : new int[] {1, 49}) {
            int bred = g.count(6);
            Check.due("bred", g.seize(0, COUNTRYMAN, sum), bred);
            int[] due = {COUNTRYMAN, DEBTOR, sum, sum, 1, 0, Check.NONE, Check.NONE, 0};
            for (int what = 0; what <= 8; what++) {
                Check.due("bred " + what, g.claim(bred, what), due[what]);
            }
            Check.due("no oaths", g.swear(0, bred, 1), Check.NONE);
        }
        Check.due("the first is not bred", g.claim(0, 4), 0);
        // The claim by whose seizure it was bred, other than 0.
        g.debt(DEBTOR, HOLDER, 8);
        Check.due("bred", g.seize(3, COUNTRYMAN, 4), 4);
        Check.due("by claim 3", g.claim(4, 8), 3);
        Check.due("it is bred", g.claim(4, 4), 1);
    }

    private static void seizeBreedsNone() {
        SeizedGoods g = half();
        Check.due("who owes himself", g.seize(0, DEBTOR, 50), Check.NONE);
        Check.due("none", g.count(6), 1);
        SeizedGoods noBack = open("law 0 0 50 0 0;law 1 0 50 1 0;law 2 0 50 1 0;");
        noBack.debt(DEBTOR, HOLDER, 100);
        Check.due("the law has no back", noBack.seize(0, COUNTRYMAN, 50), Check.NONE);
        Check.due("none", noBack.count(6), 1);
        Check.due("seized all the same", noBack.count(8), 50);
    }

    // (If there is no room for it, none is.)
    private static void seizeWithRoomForOne() {
        SeizedGoods g = half();
        for (int claim = 1; claim < 23; claim++) {
            g.debt(DEBTOR, HOLDER, 9);
        }
        Check.due("room for one", g.seize(0, COUNTRYMAN, 50), 23);
        Check.due("24", g.count(6), 24);
        Check.due("of the last", g.claim(23, 8), 0);
        Check.due("no room", g.seize(0, COUNTRYMAN, 25), Check.NONE);
        Check.due("24", g.count(6), 24);
        Check.due("left", g.claim(0, 3), 25);
        Check.due("seized", g.count(8), 75);
        Check.due("the bred one is as it was", g.claim(23, 2), 50);
    }

    // SEIZED, all in all, more
    private static void seizedAllInAll() {
        SeizedGoods g = open("law 0 0 100 0 0;");
        for (int claim = 0; claim < 24; claim++) {
            g.debt(DEBTOR, HOLDER, 999);
        }
        for (int claim = 0; claim < 24; claim++) {
            Check.due("seized", g.count(8), 999 * claim);
            g.seize(claim, claim & 1, 999);
        }
        Check.due("all", g.count(8), 24 * 999);
        Check.due("paid", g.count(7), 24);
    }

    // swears (1, 0): what it swore ahead (NONE); the latest holds
    private static void oathsOfEachTown() {
        SeizedGoods g = Check.landed("town 1;".repeat(6) + "man 0;man 1;");
        for (int claim = 0; claim < 24; claim++) {
            g.debt(0, 1, 1);
        }
        for (int claim : new int[] {0, 23}) {
            for (int town = 0; town < 6; town++) {
                Check.due("none ahead", g.swear(town, claim, town & 1), Check.NONE);
            }
            for (int town = 0; town < 6; town++) {
                Check.due("ahead", g.swear(town, claim, 1 - (town & 1)), town & 1);
                Check.due("the latest", g.swear(town, claim, 1 - (town & 1)), 1 - (town & 1));
            }
        }
        Check.due("none of another claim", g.swear(0, 1, 1), Check.NONE);
    }

    // 0 neither swore; 1 paid: all of these that swore swore so; 2 not paid likewise; 3 unlike things
    private static void saysOfTwoTowns() {
        int none = -1;
        for (int ofHolder = none; ofHolder <= 1; ofHolder++) {
            for (int ofDebtor = none; ofDebtor <= 1; ofDebtor++) {
                SeizedGoods g = Check.landed("town 1;".repeat(6) + "man 5;man 0;");
                g.debt(0, 1, 1);
                if (ofHolder != none) {
                    g.swear(0, 0, ofHolder);
                }
                if (ofDebtor != none) {
                    g.swear(5, 0, ofDebtor);
                }
                boolean isUnlike = ofHolder != none && ofDebtor != none && ofHolder != ofDebtor;
                int due = isUnlike ? 3 : ofHolder == none && ofDebtor == none ? 0 : Math.max(ofHolder, ofDebtor) == 1 ? 1 : 2;
                Check.due("says " + ofHolder + " " + ofDebtor, g.says(0), due);
                g.swear(3, 0, 0);
                Check.due("with a third: not", g.says(0), isUnlike ? 5 : due);
                g.swear(3, 0, 1);
                Check.due("with a third: paid", g.says(0), isUnlike ? 4 : due);
                g.pay(0, 1);
                Check.due("whether it is paid does not matter", g.says(0), isUnlike ? 4 : due);
            }
        }
    }

    private static void saysOfOneTown() {
        SeizedGoods g = Check.landed("town 1;town 1;man 0;man 0;");
        g.debt(0, 1, 1);
        Check.due("nobody", g.says(0), 0);
        g.swear(1, 0, 1);
        Check.due("another one only", g.says(0), 0);
        g.swear(0, 0, 0);
        Check.due("not paid", g.says(0), 2);
        g.swear(0, 0, 1);
        Check.due("paid", g.says(0), 1);
        g.swear(1, 0, 0);
        Check.due("never unlike", g.says(0), 1);
    }

    // the least other TOWN that swore is JUDGE: 4 it swore paid, 5 not; 3: there is none
    private static void saysJudge() {
        for (int least = 0; least < 6; least++) {
            for (int paid = 0; paid <= 1; paid++) {
                SeizedGoods g = Check.landed("town 1;".repeat(6) + "man 2;man 3;");
                g.debt(0, 1, 1);
                g.swear(2, 0, 1);
                g.swear(3, 0, 0);
                Check.due("none", g.says(0), 3);
                for (int town = 5; town >= least; town--) {
                    if (town != 2 && town != 3) {
                        g.swear(town, 0, town == least ? paid : 1 - paid);
                    }
                }
                if (least != 2 && least != 3) {
                    Check.due("judge " + least, g.says(0), paid == 1 ? 4 : 5);
                } else {
                    Check.due("the towns of both are no judges", g.says(0), paid == 1 ? 5 : 4);
                }
            }
        }
        SeizedGoods two = Check.landed("town 1;town 1;man 0;man 1;");
        two.debt(0, 1, 1);
        two.swear(0, 0, 0);
        two.swear(1, 0, 1);
        Check.due("no third town", two.says(0), 3);
    }
}
