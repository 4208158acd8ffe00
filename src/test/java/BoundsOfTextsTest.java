import java.util.ArrayList;
import java.util.List;

/** Terms 1 (THE TAPE, TOKENS, the sorts of a text, FAULTS) and promises 6 to 8, each at its bounds. */
public final class BoundsOfTextsTest {
    private static final String[] SORTS = {"town", "man", "road", "law", "fair", "pact"};
    private static final String[] ROWS = {"town 1;", "man 0;", "road 0 1;", "law 0 0 1 0 0;", "fair 0 1 1;", "pact 0 1;"};
    private static final int[] ROOM = {6, 12, 12, 12, 4, 12};

    public static void main(String[] args) {
        feedOfEachLength();
        feedUpToTheEnd();
        feedOfLeastAndGreatest();
        tapeIsEmptyThen();
        emptyTape();
        fullTape();
        names();
        figures();
        signs();
        between();
        noByteElse();
        atLeastOneTown();
        sortsInOrder();
        sortsThatAreMissing();
        trades();
        townsThatWereTold();
        menOfAndAt();
        roadsBothWays();
        roadsToldTwice();
        twelveRoads();
        laws();
        lawToldLast();
        lawNotTold();
        fairs();
        pairsNotThemselves();
        roomOfEachSort();
        allSortsFull();
        cutAtEachPlace();
        tokenTooMuch();
        firstTokenAndLeastFault();
        latestFault();
        landStaysOnFault();
        landInPlaceOfTheOneBefore();
        nothingOfLandsBefore();
        Check.end();
    }

    private static void reads(String text, int want) {
        SeizedGoods g = new SeizedGoods();
        Check.due("land of '" + text + "'", Check.read(g, text), want);
        Check.due("no fault of '" + text + "'", g.fault(), 0);
    }

    /** A fault at the first byte of rest. */
    private static void faulty(String ahead, String rest, int fault) {
        SeizedGoods g = new SeizedGoods();
        Check.due("place of a fault in '" + ahead + rest + "'", Check.read(g, ahead + rest), -1000100 - ahead.length());
        Check.due("fault of '" + ahead + rest + "'", g.fault(), fault);
        Check.due("no land of '" + ahead + rest + "'", g.count(1), 0);
    }

    // The lowest n bytes of w (1 to 8), the highest of them first
    private static void feedOfEachLength() {
        String text = "town 37;";
        for (int n = 1; n <= 8; n++) {
            SeizedGoods g = new SeizedGoods();
            int have = 0;
            for (int from = 0; from < 8; from += n) {
                int bytes = Math.min(n, 8 - from);
                long w = 0x7A7A7A7A7A7A7A7AL;
                for (int k = 0; k < bytes; k++) {
                    w = w << 8 | text.charAt(from + k);
                }
                have += bytes;
                Check.due("so many", g.feed(w, bytes), have);
                Check.due("count", g.count(10), have);
            }
            Check.due("land by " + n, g.land(), 1);
            Check.due("trade by " + n, g.law(0, 4), 37);
        }
    }

    // THE TAPE has at most 500 bytes; FULL: none comes.
    private static void feedUpToTheEnd() {
        for (int n = 1; n <= 8; n++) {
            SeizedGoods g = new SeizedGoods();
            Check.feed(g, "town 1;" + " ".repeat(493 - n));
            Check.due("room for " + n, g.count(10), 500 - n);
            if (n < 8) {
                Check.due("one more than there is room for", g.feed(0x2020202020202020L, n + 1), Check.FULL);
                Check.due("none came", g.count(10), 500 - n);
            }
            Check.due("just as many", g.feed(0x2020202020202020L, n), 500);
            for (int more = 1; more <= 8; more++) {
                Check.due("full", g.feed(0x2020202020202020L, more), Check.FULL);
            }
            Check.due("500", g.count(10), 500);
            Check.due("read", g.land(), 1);
            Check.due("room again", g.feed(0x20, 1), 1);
        }
    }

    private static void feedOfLeastAndGreatest() {
        for (long w : new long[] {Long.MIN_VALUE, Long.MAX_VALUE, -1, 0, Long.MIN_VALUE + 1}) {
            for (int n = 1; n <= 8; n++) {
                SeizedGoods g = new SeizedGoods();
                Check.due("feed", g.feed(w, n), n);
                Check.due("none of its bytes is a token", g.land(), -1000100);
                Check.due("fault", g.fault(), 1);
            }
        }
    }

    // land(): The tape, empty then, is read
    private static void tapeIsEmptyThen() {
        SeizedGoods g = new SeizedGoods();
        Check.feed(g, "town 1;");
        Check.due("land", g.land(), 1);
        Check.due("empty", g.count(10), 0);
        Check.feed(g, "town 1;x");
        Check.due("fault", g.land(), -1000107);
        Check.due("empty, too", g.count(10), 0);
        Check.due("nothing of it is left", g.land(), -1000100);
        Check.due("short", Check.read(g, "town"), -1000104);
        Check.due("not joined to what was there", Check.read(g, " 5;"), -1000101);
    }

    private static void emptyTape() {
        SeizedGoods g = new SeizedGoods();
        Check.due("empty", g.land(), -1000100);
        Check.due("fault", g.fault(), 1);
        for (int n : new int[] {1, 2, 499, 500}) {
            Check.due("blank", Check.read(g, " ".repeat(n)), -1000100 - n);
            Check.due("fault", g.fault(), 1);
            Check.due("lines", Check.read(g, "\n".repeat(n)), -1000100 - n);
        }
    }

    private static void fullTape() {
        reads(" ".repeat(493) + "town 9;", 1);
        reads("town 9;" + "\n".repeat(493), 1);
        reads("town" + " ".repeat(494) + "9;", 1);
        faulty(" ".repeat(499), "x", 1);
        faulty("town 1" + " ".repeat(494), "", 1);
        faulty("town 1;" + "\n".repeat(492), "{", 1);
        faulty("town ", "9".repeat(495), 1);
        faulty("", "t".repeat(500), 1);
        faulty("", ";".repeat(500), 1);
    }

    // NAMES (letters a to z): the bytes beside these are no letters, so the NAME ends ahead of them.
    private static void names() {
        faulty("", "towna 1;", 1);
        faulty("", "townz 1;", 1);
        faulty("town", "`1;", 1);
        faulty("town", "{1;", 1);
        faulty("town", "A1;", 1);
        faulty("town", "Z1;", 1);
        faulty("", "Town 1;", 1);
        faulty("", "toWn 1;", 1);
        faulty("", "tow 1;", 1);
        faulty("", "t 1;", 1);
        faulty("", "own 1;", 1);
        faulty("", "to wn 1;", 1);
        faulty("", "towntown 1;", 1);
        faulty("", "abcdefghijklmnopqrstuvwxyz", 1);
        for (String sort : SORTS) {
            String ahead = sort.equals("town") ? "" : "town 1;town 1;";
            faulty(ahead, sort.substring(1) + " 0 1;", 1);
            faulty(ahead, sort.substring(0, sort.length() - 1) + " 0 1;", 1);
            faulty(ahead, sort + "s 0 1;", 1);
            for (int letter = 0; letter < sort.length(); letter++) {
                faulty(ahead, sort.substring(0, letter) + "x" + sort.substring(letter + 1) + " 0 1;", 1);
            }
        }
    }

    // NUMBERS (figures, 3 at most)
    private static void figures() {
        for (int figure = 0; figure <= 9; figure++) {
            SeizedGoods g = Check.landed("town " + figure + ";town 0" + figure + ";town " + figure + figure + ";town 0"
                + figure + figure + ";");
            Check.due("one figure", g.law(0, 4), figure);
            Check.due("two figures", g.law(1, 4), figure);
            Check.due("two figures", g.law(2, 4), 11 * figure);
            Check.due("three figures", g.law(3, 4), 11 * figure);
        }
        faulty("town 1", "/;", 1);
        faulty("town 1", ":;", 1);
        faulty("town ", "-1;", 1);
        faulty("town ", "+1;", 1);
        faulty("town 1", ".0;", 1);
        reads("town 000;", 1);
        reads("town 099;", 1);
        faulty("town ", "0000;", 1);
        faulty("town ", "0001;", 1);
        faulty("town ", "1000;", 1);
        faulty("town ", "00000000000000000000;", 1);
        faulty("town ", "4294967297;", 1);
        faulty("town ", "18446744073709551617;", 1);
        faulty("town 1;fair 0 0 ", "1000;", 1);
        reads("town 1;fair 0 000 999;", 1);
        // Figures with something between them are two NUMBERS.
        faulty("town 1 ", "0;", 1);
        faulty("town 1\n", "0;", 1);
    }

    // SIGNS ;
    private static void signs() {
        reads("town 1;", 1);
        for (String sign : new String[] {":", "<", ",", ".", "!", "{", "}", "'", "\"", "(", ")"}) {
            faulty("town 1", sign, 1);
            faulty("town 1", sign + ";", 1);
            faulty("", sign + "town 1;", 1);
            faulty("town 1;", sign, 1);
        }
        faulty("town 1;", ";", 1);
        faulty("", ";town 1;", 1);
        faulty("town", ";1;", 1);
    }

    // bytes 32 and 10 between
    private static void between() {
        for (String gap : new String[] {" ", "\n", "  ", "\n\n", " \n", "\n \n "}) {
            reads(gap + "town" + gap + "1" + gap + ";" + gap + "town" + gap + "2" + gap + ";" + gap + "road" + gap + "0" + gap
                + "1" + gap + ";" + gap, 2);
        }
        // Nothing need be between TOKENS that end by themselves.
        SeizedGoods g = Check.landed("town7;town8;man1;road0 1;law0 1 2 1 0;fair1 3 4;pact0 1;");
        Check.due("towns", g.count(1), 2);
        Check.due("trade", g.law(1, 4), 8);
        Check.due("most", g.law(0, 1), 2);
    }

    private static void noByteElse() {
        for (int b = 0; b < 256; b++) {
            String sign = String.valueOf((char) b);
            boolean isBlank = b == 32 || b == 10;
            boolean isToken = b == ';' || b >= '0' && b <= '9' || b >= 'a' && b <= 'z';
            if (isBlank) {
                reads("town" + sign + "1" + sign + ";" + sign, 1);
                reads(sign + "town 1;", 1);
            } else {
                faulty("town 1;", sign, 1);
                faulty("town 1; ", sign + " ", 1);
                if (!isToken) {
                    faulty("town", sign + "1;", 1);
                    faulty("town 1", sign + ";", 1);
                    faulty("", sign + "town 1;", 1);
                }
            }
        }
    }

    // text: town { town } ..: one at least
    private static void atLeastOneTown() {
        reads("town 1;", 1);
        for (int sort = 1; sort < 6; sort++) {
            faulty("", ROWS[sort], 1);
            faulty(" ", ROWS[sort] + "town 1;", 1);
        }
    }

    private static void sortsInOrder() {
        for (int late = 0; late < 6; late++) {
            for (int early = 0; early < 6; early++) {
                String ahead = "town 1;town 1;" + (late == 0 ? "" : ROWS[late]);
                if (early < late) {
                    faulty(ahead, ROWS[early], 1);
                } else {
                    reads(ahead + ROWS[early], early == 0 ? 3 : 2);
                }
            }
        }
    }

    /** Each set of sorts behind the towns may stand, each of them once or twice. */
    private static void sortsThatAreMissing() {
        for (int set = 0; set < 32; set++) {
            StringBuilder text = new StringBuilder("town 1;town 1;");
            int[] due = {2, 0, 0, 0, 0};
            for (int sort = 1; sort < 6; sort++) {
                if ((set >> (sort - 1) & 1) == 1) {
                    text.append(ROWS[sort]).append(ROWS[sort]);
                }
            }
            due[1] = 2 * (set & 1);
            due[2] = set >> 1 & 1;
            due[3] = 2 * (set >> 3 & 1);
            due[4] = set >> 4 & 1;
            SeizedGoods g = Check.landed(text.toString());
            for (int k = 0; k < 5; k++) {
                Check.due("count " + (k + 1) + " of '" + text + "'", g.count(k + 1), due[k]);
            }
            Check.due("law of '" + text + "'", g.law(0, 1), (set >> 2 & 1) == 1 ? 1 : 100);
        }
    }

    // 'town' TRADE ';' (0 to 99)
    private static void trades() {
        for (int trade : new int[] {0, 1, 98, 99}) {
            Check.due("trade", Check.landed("town " + trade + ";").law(0, 4), trade);
        }
        faulty("town ", "100;", 2);
        faulty("town ", "101;", 2);
        faulty("town ", "999;", 2);
        faulty("town 99;town ", "100;", 2);
    }

    // a TOWN that was not told: each NUMBER that is one, in texts of one to six TOWNS
    private static void townsThatWereTold() {
        for (int towns = 1; towns <= 6; towns++) {
            String ahead = "town 1;".repeat(towns);
            int last = towns - 1;
            reads(ahead + "man 0;man " + last + ";law 0 1 1 1 1;law " + last + " 1 1 1 1;fair 0 1 1;fair " + last + " 1 1;", towns);
            for (int beyond : new int[] {towns, towns + 1, 99, 999}) {
                faulty(ahead + "man ", beyond + ";", 2);
                faulty(ahead + "road ", beyond + " 0;", 2);
                faulty(ahead + "road 0 ", beyond + ";", 2);
                faulty(ahead + "law ", beyond + " 1 1 1 1;", 2);
                faulty(ahead + "fair ", beyond + " 1 1;", 2);
                faulty(ahead + "pact ", beyond + " 0;", 2);
                faulty(ahead + "pact 0 ", beyond + ";", 2);
            }
            if (towns > 1) {
                reads(ahead + "road 0 " + last + ";road " + last + " 0;pact 0 " + last + ";pact " + last + " 0;", towns);
            }
        }
    }

    // he is OF it, and AT it at first
    private static void menOfAndAt() {
        SeizedGoods g = Check.landed("town 1;".repeat(6) + "man 0;man 1;man 2;man 3;man 4;man 5;man 5;man 4;man 3;man 2;man 1;man 0;");
        Check.due("men", g.count(2), 12);
        for (int man = 0; man < 12; man++) {
            int town = Math.min(man, 11 - man);
            Check.due("of", g.man(man, 0), town);
            Check.due("at", g.man(man, 1), town);
        }
    }

    // 'road' TOWN TOWN ';' (both ways ..)
    private static void roadsBothWays() {
        for (String road : new String[] {"road 0 1;", "road 1 0;"}) {
            SeizedGoods g = Check.landed("town 1;town 1;town 1;man 0;man 1;" + road);
            Check.due("there", g.goes(0, 1), 1);
            Check.due("and back", g.goes(0, 0), 1);
            Check.due("there", g.goes(1, 0), 1);
            Check.due("and back", g.goes(1, 1), 1);
            Check.due("nowhere else", g.goes(0, 2), Check.STATE);
            Check.due("nowhere else", g.goes(1, 2), Check.STATE);
        }
    }

    // what is told twice is one
    private static void roadsToldTwice() {
        Check.due("once", Check.landed("town 1;town 1;road 0 1;").count(3), 1);
        Check.due("twice", Check.landed("town 1;town 1;road 0 1;road 0 1;").count(3), 1);
        Check.due("the other way", Check.landed("town 1;town 1;road 0 1;road 1 0;").count(3), 1);
        Check.due("twelve times", Check.landed("town 1;town 1;" + "road 1 0;".repeat(12)).count(3), 1);
        Check.due("two roads", Check.landed("town 1;town 1;town 1;road 1 0;road 2 1;road 0 1;road 1 2;").count(3), 2);
    }

    private static List<String> pairs(String word) {
        List<String> pairs = new ArrayList<>();
        for (int a = 0; a < 6; a++) {
            for (int b = a + 1; b < 6; b++) {
                pairs.add(word + " " + a + " " + b + ";");
            }
        }
        return pairs;
    }

    // 12 at most
    private static void twelveRoads() {
        for (String word : new String[] {"road", "pact"}) {
            List<String> pairs = pairs(word);
            String towns = "town 1;".repeat(6);
            for (int n : new int[] {0, 1, 11, 12}) {
                SeizedGoods g = Check.landed(towns + String.join("", pairs.subList(0, n)));
                Check.due(word + "s", g.count(word.equals("road") ? 3 : 5), n);
            }
            faulty(towns + String.join("", pairs.subList(0, 12)), pairs.get(12), 3);
            faulty(towns + String.join("", pairs.subList(0, 12)), pairs.get(0), 3);
        }
    }

    // 'law' TOWN ASKED MOST BACK LETTER ';' (0 to 3, 1 to 100, 0 or 1, 0 or 1)
    private static void laws() {
        int[] least = {0, 1, 0, 0};
        int[] most = {3, 100, 1, 1};
        int[] valid = {1, 50, 1, 0};
        for (int k = 0; k < 4; k++) {
            for (int number = 0; number <= 999; number += number < 105 || number > 990 ? 1 : 100) {
                StringBuilder ahead = new StringBuilder("town 1;law 0");
                for (int j = 0; j < k; j++) {
                    ahead.append(' ').append(valid[j]);
                }
                ahead.append(' ');
                StringBuilder rest = new StringBuilder().append(number);
                for (int j = k + 1; j < 4; j++) {
                    rest.append(' ').append(valid[j]);
                }
                rest.append(';');
                if (number >= least[k] && number <= most[k]) {
                    SeizedGoods g = Check.landed(ahead.toString() + rest);
                    for (int j = 0; j < 4; j++) {
                        Check.due("law " + j, g.law(0, j), j == k ? number : valid[j]);
                    }
                } else {
                    faulty(ahead.toString(), rest.toString(), 2);
                }
            }
        }
    }

    // what is told last holds
    private static void lawToldLast() {
        SeizedGoods g = Check.landed("town 1;town 1;" + "law 0 3 9 0 1;".repeat(10) + "law 1 2 8 0 1;law 0 0 100 1 0;");
        int[] first = {0, 100, 1, 0};
        int[] second = {2, 8, 0, 1};
        for (int k = 0; k < 4; k++) {
            Check.due("the twelfth", g.law(0, k), first[k]);
            Check.due("the eleventh", g.law(1, k), second[k]);
        }
    }

    // none: 1, 100, 1, 0
    private static void lawNotTold() {
        SeizedGoods g = Check.landed("town 1;".repeat(6) + "law 2 0 1 0 1;");
        for (int town = 0; town < 6; town++) {
            Check.due("asked", g.law(town, 0), town == 2 ? 0 : 1);
            Check.due("most", g.law(town, 1), town == 2 ? 1 : 100);
            Check.due("back", g.law(town, 2), town == 2 ? 0 : 1);
            Check.due("letter", g.law(town, 3), town == 2 ? 1 : 0);
        }
    }

    // 'fair' TOWN FROM TILL ';' (DAYS 0 to 999, TILL no less)
    private static void fairs() {
        for (int from : new int[] {0, 1, 500, 998, 999}) {
            reads("town 1;fair 0 " + from + " " + from + ";", 1);
            reads("town 1;fair 0 " + from + " 999;", 1);
            if (from < 999) {
                reads("town 1;fair 0 " + from + " " + (from + 1) + ";", 1);
            }
            if (from > 0) {
                faulty("town 1;fair 0 " + from + " ", (from - 1) + ";", 2);
                faulty("town 1;fair 0 " + from + " ", "0;", 2);
            }
        }
        faulty("town 1;fair 0 ", "1000 1000;", 1);
        Check.due("told twice is two", Check.landed("town 1;fair 0 1 1;fair 0 1 1;").count(4), 2);
    }

    // not itself
    private static void pairsNotThemselves() {
        for (String word : new String[] {"road ", "pact "}) {
            for (int town = 0; town < 6; town++) {
                faulty("town 1;".repeat(6) + word + town + " ", town + ";", 2);
                faulty("town 1;".repeat(6) + word + town + " ", "0" + town + ";", 2);
            }
            faulty("town 1;" + word + "0 ", "0;", 2);
        }
    }

    // 3 more of a sort than there is room for (its word)
    private static void roomOfEachSort() {
        for (int sort = 0; sort < 6; sort++) {
            String ahead = sort == 0 ? "" : "town 1;town 1;";
            reads(ahead + ROWS[sort].repeat(ROOM[sort] - 1), sort == 0 ? 5 : 2);
            String full = ahead + ROWS[sort].repeat(ROOM[sort]);
            reads(full, sort == 0 ? 6 : 2);
            faulty(full, ROWS[sort], 3);
            faulty(full, ROWS[sort] + ROWS[sort], 3);
            // What stands behind the word is not looked at any more.
            faulty(full, SORTS[sort], 3);
            faulty(full, SORTS[sort] + " 999;", 3);
            faulty(full + " \n", SORTS[sort] + " x", 3);
            // Another sort has room of its own.
            if (sort < 5 && sort > 0) {
                reads(full + ROWS[sort + 1], 2);
            }
        }
    }

    private static String fullText() {
        StringBuilder text = new StringBuilder();
        for (int town = 0; town < 6; town++) {
            text.append("town").append(town + 1).append(';');
        }
        for (int man = 0; man < 12; man++) {
            text.append("man").append(man % 6).append(';');
        }
        for (String pair : pairs("road").subList(0, 12)) {
            text.append(pair.replace("road ", "road"));
        }
        for (int law = 0; law < 12; law++) {
            text.append("law").append(law % 6).append(" 3 ").append(law % 6 + 1).append(" 0 1;");
        }
        for (int fair = 0; fair < 4; fair++) {
            text.append("fair").append(fair).append(" 0 0;");
        }
        for (String pair : pairs("pact").subList(3, 15)) {
            text.append(pair.replace("pact ", "pact"));
        }
        return text.toString();
    }

    /** As many of all sorts as there is room for, on a tape that is full. */
    private static void allSortsFull() {
        String text = fullText();
        text += " ".repeat(500 - text.length());
        SeizedGoods g = Check.landed(text);
        int[] counts = {0, 6, 12, 12, 4, 12, 0, 0, 0, 0, 0};
        for (int what = 0; what <= 10; what++) {
            Check.due("full count " + what, g.count(what), counts[what]);
        }
        for (int town = 0; town < 6; town++) {
            Check.due("trade", g.law(town, 4), town + 1);
            Check.due("most", g.law(town, 1), town + 1);
            Check.due("asked", g.law(town, 0), 3);
        }
        for (int a = 0; a < 6; a++) {
            for (int b = a + 1; b < 6; b++) {
                boolean isFirst = a == 0 && b < 4;
                boolean isLast = a > 2;
                Check.due("road " + a + " " + b, g.goes(a, b) == 1 ? g.goes(a, a) : 0, isLast ? 0 : 1);
                Check.due("pact " + a + " " + b, g.pact(a, b, 0), isFirst ? 0 : 1);
            }
        }
        Check.due("read once more, poorer", Check.read(g, "town 3;"), 1);
        Check.due("read once more, full", Check.read(g, text), 6);
        Check.due("full again", g.count(2) + g.count(3) + g.count(4) + g.count(5), 12 + 12 + 4 + 12);
    }

    // the end: how many bytes there are
    private static void cutAtEachPlace() {
        String text = "town 11;\ntown 2;man 1;road 0 1;law 1 2 34 0 1;fair 0 12 345;pact 1 0; \n";
        for (int cut = 0; cut < text.length(); cut++) {
            String part = text.substring(0, cut);
            int word = cut;
            while (word > 0 && Character.isLetter(part.charAt(word - 1))) {
                word--;
            }
            boolean isWord = List.of(SORTS).contains(part.substring(word));
            String told = part.trim();
            if (told.endsWith(";")) {
                reads(part, told.indexOf("town 2;") < 0 ? 1 : 2);
            } else if (word < cut && !isWord) {
                faulty(part.substring(0, word), part.substring(word), 1);
            } else if (part.endsWith("fair 0 12 3")) {
                faulty(part.substring(0, cut - 1), "3", 2);
            } else {
                faulty(part, "", 1);
                faulty(part + "\n", "", 1);
            }
        }
    }

    /** A TOKEN more than there should be, of each sort, in each place. */
    private static void tokenTooMuch() {
        String[] tokens = {"town", "11", ";", "town", "2", ";", "man", "1", ";", "road", "0", "1", ";", "law", "1", "2", "34", "0",
            "1", ";", "fair", "0", "12", "345", ";", "pact", "1", "0", ";"};
        for (int at = 0; at <= tokens.length; at++) {
            StringBuilder ahead = new StringBuilder();
            StringBuilder rest = new StringBuilder();
            for (int k = 0; k < tokens.length; k++) {
                (k < at ? ahead : rest).append(tokens[k]).append(' ');
            }
            boolean wantsNumber = at < tokens.length && Character.isDigit(tokens[at].charAt(0));
            boolean wantsSign = at < tokens.length && tokens[at].equals(";");
            if (!wantsSign) {
                faulty(ahead.toString(), "; " + rest, 1);
            }
            if (!wantsNumber) {
                faulty(ahead.toString(), "1 " + rest, 1);
            }
            if (wantsNumber || wantsSign) {
                faulty(ahead.toString(), "town " + rest, 1);
            }
            faulty(ahead.toString(), "name " + rest, 1);
            faulty(ahead.toString(), "# " + rest, 1);
            faulty(ahead.toString(), "1234 " + rest, 1);
        }
    }

    // FAULTS, the first TOKEN that has one, of one TOKEN the least
    private static void firstTokenAndLeastFault() {
        faulty("town ", "100 x", 2);
        faulty("town 1;man ", "1 ; ; #", 2);
        faulty("town ", "100;" + "town 1;".repeat(7), 2);
        faulty("town 1;".repeat(6), "town 100;", 3);
        faulty("town 1;law 0 ", "4 0 2 2;", 2);
        faulty("town 1;law 0 3 ", "0 2 2;", 2);
        faulty("town 1;fair ", "1 5 4;", 2);
        faulty("town 1;road ", "1 1;", 2);
        // It cannot stand there, and there would be no room for it: the least.
        faulty("town 1;".repeat(6) + "man 0;", "town 1;", 1);
        faulty("town 1;" + "man 0;".repeat(12) + "law 0 0 1 0 0;", "man 0;", 1);
        faulty("town 1;town 1;" + "road 0 1;".repeat(12) + "pact 0 1;", "road 0 1;", 1);
        faulty("town 1;" + "law 0 0 1 0 0;".repeat(12) + "fair 0 1 1;", "law 0 0 1 0 0;", 1);
        faulty("town 1;town 1;" + "fair 0 1 1;".repeat(4) + "pact 0 1;", "fair 0 1 1;", 1);
        // A NUMBER that is not as told where none can stand.
        faulty("town 1 ", "100;", 1);
        faulty("", "100;", 1);
    }

    // fault(): The number of the latest FAULT; 0 before one.
    private static void latestFault() {
        SeizedGoods g = new SeizedGoods();
        Check.due("at first", g.fault(), 0);
        Check.read(g, "town 1;");
        Check.due("behind a land", g.fault(), 0);
        Check.read(g, "town 1;".repeat(7));
        Check.due("3", g.fault(), 3);
        Check.read(g, "town 1;");
        Check.due("a good text leaves it", g.fault(), 3);
        Check.read(g, "town 100;");
        Check.due("2", g.fault(), 2);
        Check.due("asked again", g.fault(), 2);
        Check.read(g, "town");
        Check.due("1", g.fault(), 1);
        Check.read(g, "town 1;".repeat(7));
        Check.due("3 again", g.fault(), 3);
    }

    // the LAND stays: with all that goes with it
    private static void landStaysOnFault() {
        String[] texts = {"", "x", "town", "town 1;town 2;man 0;man 1;road 0 1;law 0 3 3 0 1;fair 0 0 9;pact 0 1",
            "town 100;", "town 1;".repeat(7)};
        for (String text : texts) {
            Twin.Steps made = g -> {
                Made.rich(g);
                g.land();
                Made.plain(g);
                g.debt(0, 1, 50);
                g.later(5);
                Check.read(g, "x");
                g.image(0);
                g.image(1);
            };
            if (text.isEmpty() || text.equals("x") || text.equals("town")) {
                Twin.unchanged("fault 1 of '" + text + "'", made, g -> Check.read(g, text));
            }
            SeizedGoods g = new SeizedGoods();
            made.on(g);
            Check.dueTrue("a fault", Check.read(g, text) <= -1000100);
            int[] counts = {4, 6, 12, 4, 1, 1, 1, 0, 0, 5, 0};
            for (int what = 0; what <= 10; what++) {
                Check.due("count " + what + " stays", g.count(what), counts[what]);
            }
            Check.due("claim stays", g.claim(0, 3), 50);
            Check.due("law stays", g.law(0, 1), 50);
        }
    }

    // A LAND that is read stands in place of the one before (none at first): DAY 0, no CLAIMS.
    private static void landInPlaceOfTheOneBefore() {
        SeizedGoods g = new SeizedGoods();
        Check.due("none at first", g.dead(), Check.STATE);
        Made.crowded(g);
        Check.due("24 claims", g.count(6), 24);
        Check.due("day", g.count(9), 3);
        g.land();
        int[] counts = {4, 1, 1, 0, 0, 0, 0, 0, 0, 0, 0};
        for (int what = 0; what <= 10; what++) {
            Check.due("count " + what, g.count(what), counts[what]);
        }
        Check.due("no claim 0", g.claim(0, 0), Check.BAD);
        Check.due("no town 1", g.law(1, 4), Check.BAD);
        Check.due("no man 1", g.man(1, 0), Check.BAD);
        Check.due("its trade", g.law(0, 4), 8);
        Check.due("room for claims again", Check.read(g, "town 1;man 0;man 0;"), 1);
        for (int claim = 0; claim < 24; claim++) {
            Check.due("debt", g.debt(0, 1, 1), claim);
        }
        Check.due("full", g.debt(0, 1, 1), Check.FULL);
        for (int k = 0; k < 9; k++) {
            g.later(100);
        }
        g.later(99);
        Check.due("the same text again", Check.read(g, "town 1;man 0;man 0;"), 1);
        Check.due("day 0", g.count(9), 0);
        Check.due("no claims", g.count(6), 0);
        Check.due("a day goes by", g.later(100), 100);
    }

    /** Nothing of a land is in any that is read behind it, however often. */
    private static void nothingOfLandsBefore() {
        SeizedGoods g = new SeizedGoods();
        for (int round = 0; round < 3; round++) {
            Check.due("rich", Check.read(g, "town 9;town 8;man 0;man 1;man 0;road 0 1;law 0 0 9 0 1;law 1 0 9 1 0;fair 0 0 9;"), 2);
            g.goes(0, 1);
            g.debt(0, 1, 50 + round);
            g.ask(0);
            g.letter(0, 5, 5);
            g.swear(0, 0, 1);
            g.swear(1, 0, 0);
            g.goes(2, 1);
            Check.due("bred", g.seize(0, 2, 4), 1);
            g.pact(0, 1, 1);
            g.later(3);
            for (int poor = 0; poor < 3; poor++) {
                Check.due("poor", Check.read(g, "town 7;town 6;man 1;man 0;"), 2);
                int[] counts = {0, 2, 2, 0, 0, 0, 0, 0, 0, 0, 0};
                for (int what = 0; what <= 10; what++) {
                    Check.due("poor count " + what, g.count(what), counts[what]);
                }
                for (int man = 0; man < 2; man++) {
                    Check.due("at", g.man(man, 1), 1 - man);
                    Check.due("no road", g.goes(man, man), Check.STATE);
                }
                int[] law = {1, 100, 1, 0};
                for (int what = 0; what < 4; what++) {
                    Check.due("no law", g.law(0, what), law[what]);
                }
                g.debt(0, 1, 3);
                g.debt(1, 0, 4);
                int[][] claims = {{1, 0, 3, 3, 0, 0, Check.NONE, Check.NONE, Check.NONE},
                    {0, 1, 4, 4, 0, 0, Check.NONE, Check.NONE, Check.NONE}};
                for (int what = 0; what <= 8; what++) {
                    Check.due("first claim " + what, g.claim(0, what), claims[0][what]);
                    Check.due("second claim " + what, g.claim(1, what), claims[1][what]);
                }
                Check.due("no oaths", g.swear(0, 0, 1), Check.NONE);
                Check.due("no oaths", g.swear(1, 0, 1), Check.NONE);
            }
        }
    }
}
