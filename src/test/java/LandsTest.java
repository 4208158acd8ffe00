/** Promises 6 to 13. */
public final class LandsTest {
    public static void main(String[] args) {
        feed();
        goodTexts();
        faultsOfPlace();
        faultsOfNumbers();
        faultsOfRoom();
        faultLeavesLand();
        newLand();
        newLandsInARow();
        later();
        goes();
        man();
        law();
        pact();
        Check.end();
    }

    private static void feed() {
        SeizedGoods g = new SeizedGoods();
        Check.due("feed 0", g.feed(1, 0), Check.BAD);
        Check.due("feed 9", g.feed(1, 9), Check.BAD);
        Check.due("feed -1", g.feed(1, -1), Check.BAD);
        // "town" and " 7;" with bytes above them that are not asked for.
        Check.due("feed 4", g.feed(0x1122334474_6F_77_6EL, 4), 4);
        Check.due("feed 3", g.feed(0x7FFFFFFFFF20373BL, 3), 7);
        Check.due("tape", g.count(10), 7);
        Check.due("land", g.land(), 1);
        Check.due("trade", g.law(0, 4), 7);
        Check.due("tape is empty", g.count(10), 0);
        for (int k = 0; k < 62; k++) {
            g.feed(0x2020202020202020L, 8);
        }
        Check.due("496", g.count(10), 496);
        Check.due("too much", g.feed(0, 5), Check.FULL);
        Check.due("none came", g.count(10), 496);
        Check.due("bad ahead of full", g.feed(0, 9), Check.BAD);
        Check.due("just enough", g.feed(0x20202020L, 4), 500);
        Check.due("full", g.feed(0x20L, 1), Check.FULL);
        Check.due("blank text", g.land(), -1000100 - 500);
        Check.due("fault", g.fault(), 1);
        Check.due("negative long", g.feed(-1L, 8), 8);
        Check.due("byte 255 is none", g.land(), -1000100);
    }

    private static void goodTexts() {
        reads("town 0;", 1);
        reads("town 99;", 1);
        reads("  town\n007 ;\n\n town 1 ; ", 2);
        reads("town5;town6;man0;man 1;road 0 1;law0 0 1 0 0;fair 0 0 0;pact 1 0;", 2);
        reads("town 1;pact0 1;", -1000100 - 13, 2);
        reads("town 1;town 1;town 1;town 1;town 1;town 1;", 6);
        reads("town 1;man 0;man 0;man 0;man 0;man 0;man 0;man 0;man 0;man 0;man 0;man 0;man 0;", 1);
        reads("town 1;law 0 3 100 1 1;fair 0 999 999;fair 0 0 999;fair 0 1 1;fair 0 1 1;", 1);
        SeizedGoods g = Check.landed("town 1;town 2;town 3;road 0 1;road 1 0;road 0 1;road 1 2;"
            + "fair 0 1 2;fair 0 1 2;pact 0 1;pact 1 0;");
        Check.due("towns", g.count(1), 3);
        Check.due("men", g.count(2), 0);
        Check.due("roads told twice", g.count(3), 2);
        Check.due("fairs", g.count(4), 2);
        Check.due("pacts told twice", g.count(5), 1);
    }

    private static void reads(String text, int want) {
        SeizedGoods g = new SeizedGoods();
        Check.due("land of '" + text + "'", Check.read(g, text), want);
        Check.due("fault of '" + text + "'", g.fault(), 0);
    }

    private static void reads(String text, int want, int fault) {
        SeizedGoods g = new SeizedGoods();
        Check.due("land of '" + text + "'", Check.read(g, text), want);
        Check.due("fault of '" + text + "'", g.fault(), fault);
    }

    private static void faulty(String ahead, String rest, int fault) {
        reads(ahead + rest, -1000100 - ahead.length(), fault);
    }

    private static void faultsOfPlace() {
        faulty("", "", 1);
        faulty("   ", "", 1);
        faulty("", "man 0;", 1);
        faulty("", "pact 0 1;", 1);
        faulty("", ";", 1);
        faulty("", "5;", 1);
        faulty("", "tow 1;", 1);
        faulty("", "towns 1;", 1);
        faulty("", "townz 1;", 1);
        faulty("", "atown 1;", 1);
        faulty("town", "{1;", 1);
        faulty("town", "`1;", 1);
        faulty("town 1", ":", 1);
        faulty("town 1", "/", 1);
        faulty("town 1;", "\r", 1);
        faulty("town 1;", "\0", 1);
        faulty("", "Town 1;", 1);
        faulty("town", "\t1;", 1);
        faulty("town 1;\n ", "x", 1);
        faulty("town ", "x;", 1);
        faulty("town ", ";", 1);
        faulty("town ", "1000;", 1);
        faulty("town ", "0001;", 1);
        faulty("town ", "12345678901234567890;", 1);
        faulty("town 1", "", 1);
        faulty("town 1 \n", "", 1);
        faulty("town 1 ", "2;", 1);
        faulty("town 1 ", "town 2;", 1);
        faulty("town 1;", ";", 1);
        faulty("town 1;man 0;", "town 1;", 1);
        faulty("town 1;town 1;road 0 1;", "man 0;", 1);
        faulty("town 1;town 1;law 0 1 1 1 1;", "road 0 1;", 1);
        faulty("town 1;town 1;fair 0 1 1;", "law 0 1 1 1 1;", 1);
        faulty("town 1;town 1;pact 0 1;", "fair 0 1 1;", 1);
        faulty("town 1;town 1;pact 0 1;", "town 0;", 1);
        faulty("town 1;law 0 1 1 1", ";", 1);
        faulty("town 1;law 0 1 1 1 1 ", "1;", 1);
        faulty("town 1;fair 0 5 ", "1000;", 1);
        faulty("town 1;fair 0 5 ", "town 1;", 1);
        faulty("town 1;man ", "man", 1);
        faulty("town 1", ",", 1);
        // Of two faults the first token has it, though the other one is less.
        faulty("town ", "100;x", 2);
    }

    private static void faultsOfNumbers() {
        faulty("town ", "100;", 2);
        faulty("town 1;man ", "1;", 2);
        faulty("town 1;town 1;man ", "2;", 2);
        faulty("town 1;road 0 ", "0;", 2);
        faulty("town 1;road ", "1 0;", 2);
        faulty("town 1;town 1;road 1 ", "1;", 2);
        faulty("town 1;town 1;road 1 ", "2;", 2);
        faulty("town 1;law ", "1 0 1 0 0;", 2);
        faulty("town 1;law 0 ", "4 1 0 0;", 2);
        faulty("town 1;law 0 3 ", "0 0 0;", 2);
        faulty("town 1;law 0 3 ", "101 0 0;", 2);
        faulty("town 1;law 0 3 100 ", "2 0;", 2);
        faulty("town 1;law 0 3 100 1 ", "2;", 2);
        faulty("town 1;fair ", "1 0 0;", 2);
        faulty("town 1;fair 0 6 ", "5;", 2);
        faulty("town 1;town 1;pact ", "2 0;", 2);
        faulty("town 1;town 1;pact 0 ", "0;", 2);
        faulty("town 1;town 1;pact 0 ", "3;", 2);
    }

    private static void faultsOfRoom() {
        faulty("town 1;".repeat(6), "town 1;", 3);
        faulty("town 1;".repeat(6), "town", 3);
        faulty("town 1;" + "man 0;".repeat(12), "man 0;", 3);
        faulty("town 1;town 1;" + "road 0 1;".repeat(12), "road 1 0;", 3);
        faulty("town 1;" + "law 0 1 1 1 1;".repeat(12), "law 0 1 1 1 1;", 3);
        faulty("town 1;" + "fair 0 1 1;".repeat(4), "fair 0 1 1;", 3);
        faulty("town 1;town 1;" + "pact 0 1;".repeat(12), "pact 0 1;", 3);
        // It cannot stand there, and there is no room for it: the least.
        faulty("town 1;".repeat(6) + "man 0;", "town 1;", 1);
        reads("town 1;town 1;" + "road 0 1;".repeat(12) + "pact 0 1;".repeat(12), 2);
        reads("town 1;town 1;" + "law 0 1 1 1 1;".repeat(12), 2);
    }

    private static void faultLeavesLand() {
        SeizedGoods g = Check.landed("town 3;town 4;man 0;man 1;road 0 1;");
        g.debt(0, 1, 5);
        g.later(7);
        Check.due("faulty", Check.read(g, "town 1;town 2;town 9;man 5;"), -1000100 - 25);
        Check.due("fault", g.fault(), 2);
        Check.due("tape is empty", g.count(10), 0);
        Check.due("towns stay", g.count(1), 2);
        Check.due("trade stays", g.law(1, 4), 4);
        Check.due("men stay", g.count(2), 2);
        Check.due("claims stay", g.count(6), 1);
        Check.due("day stays", g.count(9), 7);
        Check.due("road stays", g.goes(0, 1), 1);
        Check.due("read", Check.read(g, "town 8;"), 1);
        Check.due("latest fault", g.fault(), 2);
        Check.read(g, "x");
        Check.due("a later fault", g.fault(), 1);
    }

    private static void newLand() {
        SeizedGoods g = Check.landed("town 3;town 4;man 0;man 1;road 0 1;law 0 0 1 0 1;law 1 0 100 0 0;fair 0 1 2;pact 0 1;");
        g.pact(0, 1, 0);
        g.goes(0, 1);
        g.debt(0, 1, 5);
        g.swear(0, 0, 1);
        Check.due("seize", g.seize(0, 0, 5), Check.NONE);
        g.pact(0, 1, 1);
        g.later(9);
        Check.due("seized", g.count(8), 5);
        Check.due("land", Check.read(g, "town 5;town 6;man 1;man 0;"), 2);
        int[] counts = {0, 2, 2, 0, 0, 0, 0, 0, 0, 0, 0};
        for (int what = 0; what <= 10; what++) {
            Check.due("count " + what, g.count(what), counts[what]);
        }
        Check.due("man is at his town", g.man(0, 1), 1);
        Check.due("no law told", g.law(0, 0), 1);
        Check.due("no law told", g.law(0, 1), 100);
        Check.due("no law told", g.law(0, 2), 1);
        Check.due("no law told", g.law(0, 3), 0);
        Check.due("no road", g.goes(0, 0), Check.STATE);
        Check.due("no pact", g.pact(0, 1, 0), 0);
        g.debt(0, 1, 5);
        Check.due("no oath", g.says(0), 0);
    }

    /** What one land had is in none of those read behind it, however many. */
    private static void newLandsInARow() {
        SeizedGoods g = new SeizedGoods();
        for (int k = 0; k < 4; k++) {
            Check.due("rich land", Check.read(g, "town 3;town 4;man 0;man 1;man 0;road 0 1;law 0 0 100 1 0;law 1 3 7 0 1;"
                + "fair 1 0 9;fair 0 800 900;pact 0 1;"), 2);
            int[] rich = {0, 2, 3, 1, 2, 1, 0, 0, 0, 0, 0};
            for (int what = 0; what <= 10; what++) {
                Check.due("rich count " + what, g.count(what), rich[what]);
            }
            g.pact(0, 1, 0);
            g.goes(1, 0);
            g.debt(0, 1, 20 + k);
            g.ask(0);
            g.letter(0, 9, 9);
            g.swear(0, 0, 1);
            Check.due("bred", g.seize(0, 2, 6), 1);
            g.pact(0, 1, 1);
            g.later(5);
            poorLand(g);
            // Once more: what a land is read into may be what the one before the last was read into.
            poorLand(g);
        }
    }

    private static void poorLand(SeizedGoods g) {
        Check.due("poor land", Check.read(g, "town 7;town 8;man 1;man 1;"), 2);
        int[] poor = {0, 2, 2, 0, 0, 0, 0, 0, 0, 0, 0};
        for (int what = 0; what <= 10; what++) {
            Check.due("poor count " + what, g.count(what), poor[what]);
        }
        Check.due("poor law", g.law(1, 0) * 1000 + g.law(1, 1) * 10 + g.law(1, 2), 2001);
        g.debt(0, 1, 3);
        int[] want = {1, 0, 3, 3, 0, 0, Check.NONE, Check.NONE, Check.NONE};
        for (int what = 0; what <= 8; what++) {
            Check.due("poor claim " + what, g.claim(0, what), want[what]);
        }
        Check.due("no oath", g.swear(0, 0, 0), Check.NONE);
    }

    private static void later() {
        SeizedGoods g = new SeizedGoods();
        Check.due("no land", g.later(0), Check.STATE);
        Check.due("no land", g.later(100), Check.STATE);
        Check.due("bad ahead", g.later(-1), Check.BAD);
        Check.read(g, "town 1;");
        Check.due("101", g.later(101), Check.BAD);
        Check.due("-1", g.later(-1), Check.BAD);
        Check.due("most", g.later(Integer.MAX_VALUE), Check.BAD);
        Check.due("0", g.later(0), 0);
        for (int k = 1; k <= 9; k++) {
            Check.due("100 more", g.later(100), 100 * k);
        }
        Check.due("beyond", g.later(100), Check.BAD);
        Check.due("up to the end", g.later(99), 999);
        Check.due("one beyond", g.later(1), Check.BAD);
        Check.due("none", g.later(0), 999);
        Check.due("day", g.count(9), 999);
    }

    private static void goes() {
        SeizedGoods g = Check.landed("town 1;town 1;town 1;man 0;man 2;road 1 0;");
        Check.due("man -1", g.goes(-1, 0), Check.BAD);
        Check.due("man 2", g.goes(2, 0), Check.BAD);
        Check.due("town -1", g.goes(0, -1), Check.BAD);
        Check.due("town 3", g.goes(0, 3), Check.BAD);
        Check.due("where he is", g.goes(0, 0), Check.STATE);
        Check.due("no road", g.goes(0, 2), Check.STATE);
        Check.due("no road", g.goes(1, 0), Check.STATE);
        Check.due("goes", g.goes(0, 1), 1);
        Check.due("at", g.man(0, 1), 1);
        Check.due("of", g.man(0, 0), 0);
        Check.due("both ways", g.goes(0, 0), 1);
        Check.due("at again", g.man(0, 1), 0);
    }

    private static void man() {
        SeizedGoods g = Check.landed("town 1;town 1;man 0;man 1;man 1;");
        Check.due("man -1", g.man(-1, 0), Check.BAD);
        Check.due("man 3", g.man(3, 0), Check.BAD);
        Check.due("what -1", g.man(0, -1), Check.BAD);
        Check.due("what 3", g.man(0, 3), Check.BAD);
        Check.due("of", g.man(2, 0), 1);
        Check.due("at", g.man(2, 1), 1);
        g.debt(0, 1, 30);
        g.debt(1, 2, 50);
        g.pay(1, 8);
        Check.due("balance 0", g.man(0, 2), -30);
        Check.due("balance 1", g.man(1, 2), -12);
        Check.due("balance 2", g.man(2, 2), 42);
    }

    private static void law() {
        SeizedGoods g = Check.landed("town 17;town 0;law 0 3 25 0 1;law 0 2 26 1 0;law 1 0 1 0 1;");
        Check.due("town -1", g.law(-1, 0), Check.BAD);
        Check.due("town 2", g.law(2, 0), Check.BAD);
        Check.due("what -1", g.law(0, -1), Check.BAD);
        Check.due("what 5", g.law(0, 5), Check.BAD);
        int[] first = {2, 26, 1, 0, 17};
        int[] second = {0, 1, 0, 1, 0};
        for (int what = 0; what < 5; what++) {
            Check.due("told last " + what, g.law(0, what), first[what]);
            Check.due("other " + what, g.law(1, what), second[what]);
        }
    }

    private static void pact() {
        SeizedGoods g = Check.landed("town 1;town 1;town 1;pact 2 1;");
        Check.due("alike", g.pact(1, 1, 1), Check.BAD);
        Check.due("town 3", g.pact(0, 3, 1), Check.BAD);
        Check.due("town -1", g.pact(-1, 0, 1), Check.BAD);
        Check.due("is 2", g.pact(0, 1, 2), Check.BAD);
        Check.due("is -1", g.pact(0, 1, -1), Check.BAD);
        Check.due("told", g.pact(1, 2, 1), 1);
        Check.due("other way", g.pact(2, 1, 0), 1);
        Check.due("no more", g.pact(1, 2, 0), 0);
        Check.due("count", g.count(5), 0);
        Check.due("not told", g.pact(0, 1, 1), 0);
        Check.due("now", g.pact(1, 0, 1), 1);
        Check.due("count", g.count(5), 1);
        SeizedGoods six = Check.landed("town 1;".repeat(6));
        for (int a = 0; a < 6; a++) {
            for (int b = a + 1; b < 6; b++) {
                six.pact(b, a, 1);
            }
        }
        Check.due("all pairs", six.count(5), 15);
    }
}
