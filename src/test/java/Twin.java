import java.util.ArrayList;
import java.util.List;

/**
 * Two objects made by the same steps, one of which then gets a call that is refused: all that can be asked of them behind it
 * must be alike. Each part that is looked at has two objects of its own, so that looking may spoil them.
 */
final class Twin {
    interface Steps {
        void on(SeizedGoods g);
    }

    interface Call {
        int on(SeizedGoods g);
    }

    private interface Part {
        void look(SeizedGoods g, List<Integer> seen);
    }

    private static final Part[] PARTS = {Twin::lands, Twin::ties, Twin::oaths, Twin::days, Twin::lanes,
        (g, seen) -> sheets(g, seen, 0), (g, seen) -> sheets(g, seen, 4), Twin::tape, Twin::images};
    private static final String[] NAMES = {"land and claims", "roads and pacts", "oaths", "days", "lanes",
        "sheets 0 to 3", "sheets 4 to 7", "tape", "images"};

    private Twin() { }

    /** The call is refused, or finds something: the answer, status(), and nothing else is changed. */
    static void refused(String what, Steps made, Call call, int want) {
        SeizedGoods g = new SeizedGoods();
        made.on(g);
        int ahead = g.status();
        Check.due(what, call.on(g), want);
        boolean isFinding = want <= Check.NULL && want >= Check.STORE;
        Check.due(what + ": status", g.status(), isFinding ? -1000010 - want : ahead);
        unchanged(what, made, call);
    }

    /** The call changes nothing but what status() tells. */
    static void unchanged(String what, Steps made, Call call) {
        for (int k = 0; k < PARTS.length; k++) {
            List<Integer> without = new ArrayList<>();
            SeizedGoods g = new SeizedGoods();
            made.on(g);
            PARTS[k].look(g, without);
            List<Integer> with = new ArrayList<>();
            SeizedGoods h = new SeizedGoods();
            made.on(h);
            call.on(h);
            PARTS[k].look(h, with);
            Check.dueTrue(what + ": changes nothing of " + NAMES[k], with.equals(without));
        }
    }

    private static void lands(SeizedGoods g, List<Integer> seen) {
        counts(g, seen);
        seen.add(g.fault());
        for (int i = 0; i < 7; i++) {
            seen.add(g.trace(i));
        }
        men(g, seen);
        for (int town = 0; town < g.count(1); town++) {
            for (int what = 0; what < 5; what++) {
                seen.add(g.law(town, what));
            }
        }
        claims(g, seen, 24);
    }

    private static void counts(SeizedGoods g, List<Integer> seen) {
        for (int what = 0; what <= 10; what++) {
            seen.add(g.count(what));
        }
    }

    private static void men(SeizedGoods g, List<Integer> seen) {
        int men = g.count(2);
        for (int man = 0; man < men; man++) {
            seen.add(g.man(man, 0));
            seen.add(g.man(man, 1));
        }
    }

    private static void claims(SeizedGoods g, List<Integer> seen, int most) {
        int claims = Math.min(most, g.count(6));
        for (int claim = 0; claim < claims; claim++) {
            for (int what = 0; what <= 8; what++) {
                seen.add(g.claim(claim, what));
            }
        }
    }

    private static void ties(SeizedGoods g, List<Integer> seen) {
        for (int a = 0; a < 6; a++) {
            for (int b = a + 1; b < 6; b++) {
                seen.add(g.pact(b, a, 0));
            }
        }
        for (int man = 0; man < 12; man++) {
            for (int town = 0; town < 6; town++) {
                seen.add(g.goes(man, town));
            }
        }
    }

    private static void oaths(SeizedGoods g, List<Integer> seen) {
        int claims = g.count(6);
        for (int claim = 0; claim < claims; claim++) {
            for (int town = 0; town < 6; town++) {
                seen.add(g.swear(town, claim, 1));
            }
        }
    }

    private static void days(SeizedGoods g, List<Integer> seen) {
        for (int day = 0; day < 10; day++) {
            for (int claim = 0; claim < 2; claim++) {
                for (int man = 0; man < 12; man++) {
                    seen.add(g.may(claim, man, 0));
                }
            }
            seen.add(g.later(1));
        }
    }

    private static void lanes(SeizedGoods g, List<Integer> seen) {
        for (int a = 0; a < 8; a++) {
            for (int b = 0; b < 8; b++) {
                seen.add(g.copy(a, 0, b, 0, 0));
            }
        }
        for (int sheet = 0; sheet < 8; sheet++) {
            seen.add(g.set(sheet, 0, 0x12345678));
        }
    }

    /** Items are seen as the rows of debts, so they are such rows in the objects that are looked at. */
    private static void sheets(SeizedGoods g, List<Integer> seen, int first) {
        g.land();
        for (int sheet = first; sheet < first + 4; sheet++) {
            Check.read(g, "town 1;" + "man 0;".repeat(12));
            int answer = 0;
            for (int row = 0; row < 13 && answer != Check.NULL; row++) {
                answer = g.debts(sheet, 3 * row, 1);
                seen.add(answer);
            }
            int claims = g.count(6);
            for (int claim = 0; claim < claims; claim++) {
                for (int what = 0; what < 3; what++) {
                    seen.add(g.claim(claim, what));
                }
            }
            seen.add(g.drop(sheet));
        }
    }

    private static void tape(SeizedGoods g, List<Integer> seen) {
        seen.add(g.count(10));
        seen.add(g.land());
        seen.add(g.fault());
        counts(g, seen);
        men(g, seen);
        seen.add(g.law(0, 4));
    }

    private static void images(SeizedGoods g, List<Integer> seen) {
        for (int k = 0; k < 2; k++) {
            seen.add(g.restore(k));
            counts(g, seen);
            men(g, seen);
            claims(g, seen, 6);
            seen.add(g.law(0, 4));
        }
    }
}
