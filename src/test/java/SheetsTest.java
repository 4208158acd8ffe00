/** Promises 1 to 5, and 42 for sheets. */
public final class SheetsTest {
    public static void main(String[] args) {
        newObject();
        sheet();
        set();
        copy();
        drop();
        status();
        Check.end();
    }

    private static void newObject() {
        SeizedGoods g = new SeizedGoods();
        for (int what = 0; what <= 10; what++) {
            Check.due("new count " + what, g.count(what), 0);
        }
        Check.due("new fault", g.fault(), 0);
        Check.due("new status", g.status(), 0);
        Check.due("new trace", g.trace(0), Check.NONE);
        Check.due("new dead", g.dead(), Check.STATE);
        Check.due("new man", g.man(0, 0), Check.BAD);
        for (int s = 0; s < 8; s++) {
            Check.due("new sheet missing " + s, g.drop(s), Check.NULL);
        }
    }

    private static void sheet() {
        SeizedGoods g = new SeizedGoods();
        Check.due("sheet -1", g.sheet(-1, 0, 1), Check.BAD);
        Check.due("sheet 8", g.sheet(8, 0, 1), Check.BAD);
        Check.due("lane -1", g.sheet(0, -1, 1), Check.BAD);
        Check.due("lane 3", g.sheet(0, 3, 1), Check.BAD);
        Check.due("41 items", g.sheet(0, 0, 41), Check.BAD);
        Check.due("bad ahead of size", g.sheet(0, 3, -1), Check.BAD);
        Check.due("most items", g.sheet(0, 0, Integer.MAX_VALUE), Check.BAD);
        Check.due("fewer than none", g.sheet(0, 0, -1), Check.SIZE);
        Check.due("far fewer", g.sheet(0, 0, Integer.MIN_VALUE), Check.SIZE);
        Check.due("none made", g.count(0), 0);
        Check.due("40 items", g.sheet(7, 2, 40), 40);
        Check.due("0 items", g.sheet(0, 1, 0), 0);
        Check.due("two", g.count(0), 2);
        Check.due("last item", g.set(7, 39, 5), 5);
        Check.due("renewed", g.sheet(7, 2, 40), 40);
        g.sheet(6, 2, 40);
        Check.due("still two and one", g.count(0), 3);
        Check.due("item of renewed is 0", itemOf(g, 7, 39), 0);
        Check.due("size of a kept sheet", g.sheet(7, 0, -3), Check.SIZE);
        Check.due("kept as it was", g.drop(7), 40);
    }

    /** No call tells an item: it is seen as the sum of a debt, which is refused if it is 0. */
    private static int itemOf(SeizedGoods g, int sheet, int i) {
        Check.read(g, "town 1;man 0;man 0;");
        g.sheet(5, 2, 3);
        g.set(5, 0, 0);
        g.set(5, 1, 1);
        Check.due("copied", g.copy(sheet, i, 5, 2, 1), 1);
        int claims = g.debts(5, 0, 1);
        return claims < 0 ? 0 : g.claim(claims - 1, 2);
    }

    private static void set() {
        SeizedGoods g = new SeizedGoods();
        Check.due("set missing", g.set(0, 0, 0), Check.NULL);
        Check.due("set sheet -1", g.set(-1, 0, 0), Check.BAD);
        Check.due("set sheet 8", g.set(8, 0, 0), Check.BAD);
        g.sheet(0, 0, 2);
        g.sheet(1, 1, 2);
        g.sheet(2, 2, 2);
        Check.due("place -1", g.set(0, -1, 0), Check.PLACE);
        Check.due("place 2", g.set(0, 2, 0), Check.PLACE);
        Check.due("far place", g.set(0, Integer.MIN_VALUE, 0), Check.PLACE);
        Check.due("byte 127", g.set(0, 0, 127), 127);
        Check.due("byte 128", g.set(0, 0, 128), -128);
        Check.due("byte 511", g.set(0, 1, 511), -1);
        Check.due("byte -129", g.set(0, 1, -129), 127);
        Check.due("short 32767", g.set(1, 0, 32767), 32767);
        Check.due("short 32768", g.set(1, 0, 32768), -32768);
        Check.due("short 65541", g.set(1, 1, 65541), 5);
        Check.due("int least", g.set(2, 1, Integer.MIN_VALUE), Integer.MIN_VALUE);
        g.sheet(3, 0, 0);
        Check.due("no place at all", g.set(3, 0, 1), Check.PLACE);
    }

    private static void copy() {
        SeizedGoods g = Check.landed("town 1;man 0;man 0;man 0;");
        Check.due("copy -1", g.copy(-1, 0, 0, 0, 0), Check.BAD);
        Check.due("copy to 8", g.copy(0, 0, 8, 0, 0), Check.BAD);
        g.sheet(0, 2, 6);
        Check.due("from missing", g.copy(1, 0, 0, 0, 0), Check.NULL);
        Check.due("to missing", g.copy(0, 0, 1, 0, 0), Check.NULL);
        g.sheet(1, 1, 6);
        Check.due("two lanes", g.copy(0, 0, 1, 0, 1), Check.STORE);
        Check.due("two lanes ahead of place", g.copy(0, -1, 1, 0, 1), Check.STORE);
        Check.due("i below 0", g.copy(0, -1, 0, 0, 1), Check.PLACE);
        Check.due("j below 0", g.copy(0, 0, 0, -1, 1), Check.PLACE);
        Check.due("n below 0", g.copy(0, 0, 0, 0, -1), Check.PLACE);
        Check.due("i beyond", g.copy(0, 4, 0, 0, 3), Check.PLACE);
        Check.due("j beyond", g.copy(0, 0, 0, 4, 3), Check.PLACE);
        Check.due("wraps", g.copy(0, Integer.MAX_VALUE, 0, 0, 2), Check.PLACE);
        Check.due("wraps n", g.copy(0, 1, 0, 1, Integer.MAX_VALUE), Check.PLACE);
        Check.due("none at the end", g.copy(0, 6, 0, 6, 0), 0);
        Check.due("none beyond the end", g.copy(0, 7, 0, 0, 0), Check.PLACE);
        // 0 1 5 . . . moved by one over itself: as they were ahead.
        g.set(0, 0, 0);
        g.set(0, 1, 1);
        g.set(0, 2, 2);
        g.set(0, 3, 9);
        Check.due("over itself", g.copy(0, 0, 0, 1, 4), 4);
        // now 0 0 1 2 9 0: the row from 2 on is 1 owes 2 nine.
        Check.due("row as moved", g.debts(0, 2, 1), 1);
        Check.due("who owes", g.claim(0, 1), 1);
        Check.due("who has", g.claim(0, 0), 2);
        Check.due("sum", g.claim(0, 2), 9);
        Check.due("back over itself", g.copy(0, 2, 0, 0, 3), 3);
        Check.due("row as moved back", g.debts(0, 0, 1), 2);
        Check.due("sum again", g.claim(1, 2), 9);
        g.sheet(2, 2, 3);
        Check.due("to another", g.copy(0, 0, 2, 0, 3), 3);
        g.set(0, 2, 700);
        Check.due("row of the other", g.debts(2, 0, 1), 3);
        Check.due("sum of the other", g.claim(2, 2), 9);
    }

    private static void drop() {
        SeizedGoods g = new SeizedGoods();
        Check.due("drop -1", g.drop(-1), Check.BAD);
        Check.due("drop 8", g.drop(8), Check.BAD);
        Check.due("drop missing", g.drop(3), Check.NULL);
        g.sheet(3, 1, 17);
        Check.due("drop", g.drop(3), 17);
        Check.due("gone", g.drop(3), Check.NULL);
        Check.due("count", g.count(0), 0);
        g.sheet(3, 1, 0);
        Check.due("drop empty", g.drop(3), 0);
    }

    private static void status() {
        SeizedGoods g = Check.landed("town 1;man 0;man 0;");
        g.sheet(0, 0, -1);
        Check.due("status size", g.status(), 4);
        g.sheet(9, 0, 1);
        Check.due("bad leaves it", g.status(), 4);
        g.set(0, 0, 0);
        Check.due("status null", g.status(), 1);
        g.sheet(0, 0, 3);
        Check.due("status none", g.status(), 0);
        g.set(0, 3, 0);
        Check.due("status place", g.status(), 2);
        g.sheet(1, 1, 3);
        Check.due("sheet clears", g.status(), 0);
        g.copy(0, 0, 1, 0, 1);
        Check.due("status store", g.status(), 5);
        g.count(0);
        g.later(1);
        g.man(0, 0);
        Check.due("other calls leave it", g.status(), 5);
        g.debts(0, 0, 11);
        Check.due("bad debts leave it", g.status(), 5);
        g.debts(0, 0, 1);
        Check.due("bad items leave it", g.status(), 5);
        g.debts(0, 1, 1);
        Check.due("debts place", g.status(), 2);
        g.debts(4, 0, 1);
        Check.due("debts null", g.status(), 1);
        g.set(0, 1, 1);
        Check.due("set clears", g.status(), 0);
        g.drop(5);
        Check.due("drop null", g.status(), 1);
        g.set(0, 2, 9);
        g.drop(5);
        Check.due("debts", g.debts(0, 0, 1), 1);
        Check.due("debts clear", g.status(), 0);
        Check.due("as", g.as(0, 4), Check.KIND);
        Check.due("status kind", g.status(), 3);
        g.as(0, 7);
        g.as(1, 0);
        Check.due("bad as leaves it", g.status(), 3);
        g.as(0, 1);
        Check.due("as clears", g.status(), 0);
        g.drop(5);
        g.copy(0, 0, 0, 0, 1);
        Check.due("copy clears", g.status(), 0);
        g.drop(5);
        g.drop(0);
        Check.due("drop clears", g.status(), 0);
        for (int k = 0; k < 30; k++) {
            g.debt(0, 1, 1);
        }
        g.sheet(0, 2, 3);
        g.set(0, 1, 1);
        g.set(0, 2, 1);
        g.drop(5);
        Check.due("full", g.debts(0, 0, 1), Check.FULL);
        Check.due("full leaves it", g.status(), 1);
    }
}
