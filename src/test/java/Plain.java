import java.util.ArrayList;
import java.util.Arrays;
import java.util.List;
import java.util.TreeSet;

/** The document written a second time, plainly and slowly, to hold the class against it. */
final class Plain {
    private static final int NONE = -1000000, BAD = -1000001, STATE = -1000002, FULL = -1000003;

    private static final class Debt {
        int has, owes, sum, left, asked, from = NONE;
        Integer letterDay, letterLeft;
        final Integer[] oaths = new Integer[6];

        Debt like() {
            Debt d = new Debt();
            d.has = has;
            d.owes = owes;
            d.sum = sum;
            d.left = left;
            d.asked = asked;
            d.from = from;
            d.letterDay = letterDay;
            d.letterLeft = letterLeft;
            System.arraycopy(oaths, 0, d.oaths, 0, 6);
            return d;
        }
    }

    private static final class World {
        final List<Integer> trade = new ArrayList<>();
        final List<int[]> laws = new ArrayList<>();
        final List<int[]> men = new ArrayList<>();
        final TreeSet<Integer> roads = new TreeSet<>();
        final TreeSet<Integer> pacts = new TreeSet<>();
        final List<int[]> fairs = new ArrayList<>();
        final List<Debt> debts = new ArrayList<>();
        int day, seized;

        World like() {
            World w = new World();
            w.trade.addAll(trade);
            laws.forEach(l -> w.laws.add(l.clone()));
            men.forEach(m -> w.men.add(m.clone()));
            w.roads.addAll(roads);
            w.pacts.addAll(pacts);
            fairs.forEach(f -> w.fairs.add(f.clone()));
            debts.forEach(d -> w.debts.add(d.like()));
            w.day = day;
            w.seized = seized;
            return w;
        }

        int of(int man) {
            return men.get(man)[0];
        }

        int at(int man) {
            return men.get(man)[1];
        }

        int left() {
            return debts.stream().mapToInt(d -> d.left).sum();
        }
    }

    private final int[][] sheets = new int[8][];
    private final int[] lanes = new int[8];
    private String tape = "";
    private World world;
    private final World[] images = new World[2];
    private int fault, status;
    private List<Integer> trace = new ArrayList<>();

    // ---- sheets

    private int found(int finding) {
        status = finding;
        return finding == 0 ? 0 : -1000010 - finding;
    }

    int sheet(int s, int lane, int n) {
        if (s < 0 || s > 7 || lane < 0 || lane > 2 || n > 40) {
            return BAD;
        }
        if (n < 0) {
            return found(4);
        }
        found(0);
        sheets[s] = new int[n];
        lanes[s] = lane;
        return n;
    }

    int set(int s, int i, int v) {
        if (s < 0 || s > 7) {
            return BAD;
        }
        if (sheets[s] == null) {
            return found(1);
        }
        if (i < 0 || i >= sheets[s].length) {
            return found(2);
        }
        found(0);
        sheets[s][i] = lanes[s] == 0 ? (byte) v : lanes[s] == 1 ? (short) v : v;
        return sheets[s][i];
    }

    int copy(int a, int i, int b, int j, int n) {
        if (a < 0 || a > 7 || b < 0 || b > 7) {
            return BAD;
        }
        if (sheets[a] == null || sheets[b] == null) {
            return found(1);
        }
        if (lanes[a] != lanes[b]) {
            return found(5);
        }
        if (i < 0 || j < 0 || n < 0 || (long) i + n > sheets[a].length || (long) j + n > sheets[b].length) {
            return found(2);
        }
        found(0);
        int[] ahead = sheets[a].clone();
        for (int k = 0; k < n; k++) {
            sheets[b][j + k] = ahead[i + k];
        }
        return n;
    }

    int drop(int s) {
        if (s < 0 || s > 7) {
            return BAD;
        }
        if (sheets[s] == null) {
            return found(1);
        }
        found(0);
        int n = sheets[s].length;
        sheets[s] = null;
        return n;
    }

    // ---- lands, days

    int feed(long w, int n) {
        if (n < 1 || n > 8) {
            return BAD;
        }
        if (tape.length() + n > 500) {
            return FULL;
        }
        for (int k = n - 1; k >= 0; k--) {
            tape += (char) (w >>> 8 * k & 255);
        }
        return tape.length();
    }

    private static final class Fault extends RuntimeException {
        private static final long serialVersionUID = 1L;
        final int place, number;

        Fault(int place, int number) {
            this.place = place;
            this.number = number;
        }
    }

    /** Tokens and their places, the end among them. */
    private static List<String> tokens(String text, List<Integer> places) {
        List<String> tokens = new ArrayList<>();
        java.util.regex.Matcher m = java.util.regex.Pattern.compile("[a-z]+|[0-9]+|[^ \n]", java.util.regex.Pattern.DOTALL)
            .matcher(text);
        while (m.find()) {
            tokens.add(m.group());
            places.add(m.start());
        }
        tokens.add("");
        places.add(text.length());
        return tokens;
    }

    private static final List<String> WORDS = List.of("town", "man", "road", "law", "fair", "pact");
    private static final int[] ROOM = {6, 12, 12, 12, 4, 12};
    private static final int[] NUMBERS = {1, 1, 2, 5, 3, 2};

    private static World parse(String text) {
        List<Integer> places = new ArrayList<>();
        List<String> tokens = tokens(text, places);
        World w = new World();
        int[] told = new int[6];
        int sort = 0;
        int at = 0;
        while (!tokens.get(at).isEmpty() || told[0] == 0) {
            int word = WORDS.indexOf(tokens.get(at));
            if (word < sort || word > 0 && told[0] == 0) {
                throw new Fault(places.get(at), 1);
            }
            sort = word;
            told[word]++;
            if (told[word] > ROOM[word]) {
                throw new Fault(places.get(at), 3);
            }
            at++;
            int[] row = new int[NUMBERS[word]];
            for (int k = 0; k < row.length; k++, at++) {
                if (!tokens.get(at).matches("[0-9]{1,3}")) {
                    throw new Fault(places.get(at), 1);
                }
                row[k] = Integer.parseInt(tokens.get(at));
                if (!fits(w, word, row, k)) {
                    throw new Fault(places.get(at), 2);
                }
            }
            if (!tokens.get(at).equals(";")) {
                throw new Fault(places.get(at), 1);
            }
            at++;
            tell(w, word, row);
        }
        return w;
    }

    private static boolean fits(World w, int word, int[] row, int k) {
        boolean town = row[k] < w.trade.size();
        switch (WORDS.get(word)) {
            case "town": return row[0] <= 99;
            case "man": return town;
            case "road": case "pact": return town && (k == 0 || row[0] != row[1]);
            case "fair": return k == 0 ? town : k == 1 || row[2] >= row[1];
            default: return k == 0 ? town : k == 1 ? row[k] <= 3 : k == 2 ? row[k] >= 1 && row[k] <= 100 : row[k] <= 1;
        }
    }

    private static int pair(int a, int b) {
        return Math.min(a, b) * 10 + Math.max(a, b);
    }

    private static void tell(World w, int word, int[] row) {
        switch (WORDS.get(word)) {
            case "town":
                w.trade.add(row[0]);
                w.laws.add(new int[] {1, 100, 1, 0});
                break;
            case "man": w.men.add(new int[] {row[0], row[0]}); break;
            case "road": w.roads.add(pair(row[0], row[1])); break;
            case "pact": w.pacts.add(pair(row[0], row[1])); break;
            case "fair": w.fairs.add(row); break;
            default: w.laws.set(row[0], Arrays.copyOfRange(row, 1, 5));
        }
    }

    int land() {
        String text = tape;
        tape = "";
        try {
            world = parse(text);
            return world.trade.size();
        } catch (Fault f) {
            fault = f.number;
            return -1000100 - f.place;
        }
    }

    int fault() {
        return fault;
    }

    int later(int n) {
        if (n < 0 || n > 100 || world != null && world.day + n > 999) {
            return BAD;
        }
        return world == null ? STATE : (world.day += n);
    }

    private boolean noMan(int man) {
        return world == null || man < 0 || man >= world.men.size();
    }

    private boolean noTown(int town) {
        return world == null || town < 0 || town >= world.trade.size();
    }

    private boolean noClaim(int claim) {
        return world == null || claim < 0 || claim >= world.debts.size();
    }

    int goes(int man, int town) {
        if (noMan(man) || noTown(town)) {
            return BAD;
        }
        if (!world.roads.contains(pair(world.at(man), town))) {
            return STATE;
        }
        world.men.get(man)[1] = town;
        return 1;
    }

    private static int balance(World w, int man) {
        int b = 0;
        for (Debt d : w.debts) {
            b += d.has == man ? d.left : d.owes == man ? -d.left : 0;
        }
        return b;
    }

    int man(int man, int what) {
        if (noMan(man) || what < 0 || what > 2) {
            return BAD;
        }
        return what == 0 ? world.of(man) : what == 1 ? world.at(man) : balance(world, man);
    }

    int law(int town, int what) {
        if (noTown(town) || what < 0 || what > 4) {
            return BAD;
        }
        return what == 4 ? world.trade.get(town) : world.laws.get(town)[what];
    }

    int pact(int a, int b, int is) {
        if (noTown(a) || noTown(b) || a == b || is < 0 || is > 1) {
            return BAD;
        }
        boolean was = world.pacts.contains(pair(a, b));
        if (is == 1) {
            world.pacts.add(pair(a, b));
        } else {
            world.pacts.remove(pair(a, b));
        }
        return was ? 1 : 0;
    }

    // ---- claims

    private static Debt debtOf(int who, int whom, int sum) {
        Debt d = new Debt();
        d.owes = who;
        d.has = whom;
        d.sum = sum;
        d.left = sum;
        return d;
    }

    private boolean noDebt(int who, int whom, int sum) {
        return noMan(who) || noMan(whom) || who == whom || sum < 1 || sum > 999;
    }

    int debt(int who, int whom, int sum) {
        if (noDebt(who, whom, sum)) {
            return BAD;
        }
        if (world.debts.size() == 24) {
            return FULL;
        }
        world.debts.add(debtOf(who, whom, sum));
        return world.debts.size() - 1;
    }

    int debts(int s, int i, int n) {
        if (s < 0 || s > 7 || n < 1 || n > 10) {
            return BAD;
        }
        if (sheets[s] == null) {
            return found(1);
        }
        if (i < 0 || (long) i + 3 * n > sheets[s].length) {
            return found(2);
        }
        List<Debt> more = new ArrayList<>();
        for (int k = i; k < i + 3 * n; k += 3) {
            if (noDebt(sheets[s][k], sheets[s][k + 1], sheets[s][k + 2])) {
                return BAD;
            }
            more.add(debtOf(sheets[s][k], sheets[s][k + 1], sheets[s][k + 2]));
        }
        if (world.debts.size() + n > 24) {
            return FULL;
        }
        found(0);
        world.debts.addAll(more);
        return world.debts.size();
    }

    int ask(int c) {
        if (noClaim(c)) {
            return BAD;
        }
        Debt d = world.debts.get(c);
        return d.left == 0 ? STATE : ++d.asked;
    }

    int letter(int c, int sum, int n) {
        if (noClaim(c) || sum < 1 || sum > 999 || n < 0 || n > 99) {
            return BAD;
        }
        Debt d = world.debts.get(c);
        if (d.left == 0) {
            return STATE;
        }
        d.letterDay = world.day + n;
        d.letterLeft = sum;
        return d.letterDay;
    }

    int pay(int c, int sum) {
        if (noClaim(c) || sum < 1 || sum > 999) {
            return BAD;
        }
        Debt d = world.debts.get(c);
        d.left = Math.max(0, d.left - sum);
        return d.left;
    }

    int claim(int c, int what) {
        if (noClaim(c) || what < 0 || what > 8) {
            return BAD;
        }
        Debt d = world.debts.get(c);
        Integer[] told = {d.has, d.owes, d.sum, d.left, d.from == NONE ? 0 : 1, d.asked, d.letterDay, d.letterLeft, d.from};
        return told[what] == null ? NONE : told[what];
    }

    private static boolean letterRuns(World w, Debt d) {
        return d.letterDay != null && w.day <= d.letterDay && d.letterLeft > 0;
    }

    /** What is lacked where the man stands. */
    private static int lacks(World w, Debt d, int man) {
        int town = w.at(man);
        int[] law = w.laws.get(town);
        boolean[] lacks = new boolean[9];
        lacks[1] = d.left == 0;
        lacks[2] = w.at(d.has) != town;
        lacks[3] = man == d.has || w.of(man) == w.of(d.has);
        lacks[4] = w.pacts.contains(pair(w.of(man), w.of(d.has)));
        lacks[5] = w.fairs.stream().anyMatch(f -> f[0] == town && f[1] <= w.day && w.day <= f[2]);
        lacks[6] = man != d.owes && w.of(man) != w.of(d.owes);
        lacks[7] = man != d.owes && d.asked < law[0];
        lacks[8] = law[3] == 1 && !letterRuns(w, d);
        for (int k = 1; k <= 8; k++) {
            if (lacks[k]) {
                return k;
            }
        }
        return 0;
    }

    private static int most(World w, Debt d, int man) {
        int[] law = w.laws.get(w.at(man));
        int most = law[1] * d.left / 100;
        if (most < 1) {
            most = 1;
        }
        return law[3] == 1 && d.letterLeft < most ? d.letterLeft : most;
    }

    private static int seizeIn(World w, int c, int man, int sum) {
        Debt d = w.debts.get(c);
        int[] law = w.laws.get(w.at(man));
        d.left -= sum;
        w.seized += sum;
        if (law[3] == 1) {
            d.letterLeft -= sum;
        }
        if (law[2] == 1 && man != d.owes && w.debts.size() < 24) {
            Debt bred = debtOf(d.owes, man, sum);
            bred.from = c;
            w.debts.add(bred);
            return w.debts.size() - 1;
        }
        return NONE;
    }

    int may(int c, int man, int what) {
        if (noClaim(c) || noMan(man) || what < 0 || what > 1) {
            return BAD;
        }
        int word = lacks(world, world.debts.get(c), man);
        return what == 0 ? word : word == 0 ? most(world, world.debts.get(c), man) : NONE;
    }

    int seize(int c, int man, int sum) {
        if (noClaim(c) || noMan(man) || sum < 1 || sum > 999) {
            return BAD;
        }
        Debt d = world.debts.get(c);
        return lacks(world, d, man) != 0 || sum > most(world, d, man) ? STATE : seizeIn(world, c, man, sum);
    }

    int swear(int town, int c, int paid) {
        if (noTown(town) || noClaim(c) || paid < 0 || paid > 1) {
            return BAD;
        }
        Integer ahead = world.debts.get(c).oaths[town];
        world.debts.get(c).oaths[town] = paid;
        return ahead == null ? NONE : ahead;
    }

    int says(int c) {
        if (noClaim(c)) {
            return BAD;
        }
        Debt d = world.debts.get(c);
        TreeSet<Integer> sworn = new TreeSet<>();
        int judge = 3;
        for (int town = 5; town >= 0; town--) {
            if (d.oaths[town] == null) {
                continue;
            }
            if (town == world.of(d.has) || town == world.of(d.owes)) {
                sworn.add(d.oaths[town]);
            } else {
                judge = d.oaths[town] == 1 ? 4 : 5;
            }
        }
        return sworn.isEmpty() ? 0 : sworn.size() == 2 ? judge : sworn.first() == 1 ? 1 : 2;
    }

    // ---- foretold

    private static World growth(World world, int n) {
        World w = world.like();
        for (int k = 0; k < n; k++, w.day++) {
            int there = w.debts.size();
            for (int c = 0; c < there; c++) {
                for (int man = 0; man < w.men.size(); man++) {
                    if (lacks(w, w.debts.get(c), man) == 0) {
                        seizeIn(w, c, man, most(w, w.debts.get(c), man));
                        break;
                    }
                }
            }
        }
        return w;
    }

    int grown(int n, int what) {
        if (n < 1 || n > 30 || what < 0 || what > 2) {
            return BAD;
        }
        if (world == null) {
            return STATE;
        }
        World w = growth(world, n);
        return what == 0 ? w.debts.size() : what == 1 ? w.seized - world.seized : w.left();
    }

    /** Someone has to settle with someone of the other sign first: all are tried, in full or in part. */
    private static int settle(int[] balances, int from, int best) {
        int at = from;
        while (at < balances.length && balances[at] == 0) {
            at++;
        }
        if (at == balances.length) {
            return 0;
        }
        int fewest = best;
        for (int k = at + 1; k < balances.length && fewest > 0; k++) {
            if ((long) balances[at] * balances[k] < 0) {
                balances[k] += balances[at];
                fewest = Math.min(fewest, 1 + settle(balances, at + 1, fewest - 1));
                balances[k] -= balances[at];
            }
        }
        return fewest;
    }

    int net(int what) {
        if (what < 0 || what > 2) {
            return BAD;
        }
        if (world == null) {
            return STATE;
        }
        int n = world.men.size();
        int[] balances = new int[n];
        int coin = 0;
        int out = 0;
        for (int man = 0; man < n; man++) {
            balances[man] = balance(world, man);
            coin += balances[man] > 0 ? balances[man] : 0;
            for (Debt d : world.debts) {
                if ((d.has == man || d.owes == man) && d.left > 0 && balances[man] == 0) {
                    out |= 1 << man;
                }
            }
        }
        return what == 0 ? coin : what == 1 ? out : settle(balances, 0, n);
    }

    /** The claims that would be lawful against the man, were he in the town. */
    private int bars(int man, int town) {
        World w = world.like();
        w.men.get(man)[1] = town;
        int bits = 0;
        for (int c = 0; c < w.debts.size(); c++) {
            if (lacks(w, w.debts.get(c), man) == 0) {
                bits |= 1 << c;
            }
        }
        return bits;
    }

    private List<List<Integer>> ways(List<Integer> so, int town) {
        List<List<Integer>> ways = new ArrayList<>();
        int at = so.get(so.size() - 1);
        if (at == town) {
            ways.add(so);
            return ways;
        }
        for (int next = 0; next < world.trade.size(); next++) {
            if (world.roads.contains(pair(at, next)) && !so.contains(next)) {
                List<Integer> more = new ArrayList<>(so);
                more.add(next);
                ways.addAll(ways(more, town));
            }
        }
        return ways;
    }

    int way(int man, int town) {
        if (noMan(man) || noTown(town)) {
            return BAD;
        }
        int fewest = NONE;
        for (List<Integer> way : ways(List.of(world.at(man)), town)) {
            boolean open = way.stream().skip(1).allMatch(t -> bars(man, t) == 0);
            if (open && (fewest == NONE || way.size() - 1 < fewest)) {
                fewest = way.size() - 1;
            }
        }
        return fewest;
    }

    int opened(int man, int town) {
        if (noMan(man) || noTown(town)) {
            return BAD;
        }
        long best = Long.MAX_VALUE;
        for (List<Integer> way : ways(List.of(world.at(man)), town)) {
            int set = 0;
            for (int t : way.subList(1, way.size())) {
                set |= bars(man, t);
            }
            best = Math.min(best, (long) Integer.bitCount(set) << 32 | set);
        }
        return best == Long.MAX_VALUE ? NONE : (int) best;
    }

    int shut(int a, int b) {
        if (noTown(a) || noTown(b) || a == b) {
            return BAD;
        }
        World w = world.like();
        w.men.add(new int[] {a, b});
        return w.debts.stream().anyMatch(d -> lacks(w, d, w.men.size() - 1) == 0) ? 1 : 0;
    }

    int dead() {
        if (world == null) {
            return STATE;
        }
        int dead = 0;
        for (int b = 0; b < world.trade.size(); b++) {
            for (int a = 0; a < b; a++) {
                dead += shut(a, b) | shut(b, a);
            }
        }
        return dead;
    }

    private int due(int holder, int debtor) {
        int due = 0;
        for (Debt d : world.debts) {
            due += world.of(d.has) == holder && world.of(d.owes) == debtor ? d.left : 0;
        }
        return due;
    }

    int owes(int town) {
        if (noTown(town)) {
            return BAD;
        }
        int owes = 0;
        for (int other = 0; other < world.trade.size(); other++) {
            owes += other == town ? 0 : due(other, town);
        }
        return owes;
    }

    private static int digit(int row, int town) {
        return row / (int) Math.pow(3, town) % 3;
    }

    private int worth(int town, int row) {
        int worth = 0;
        int mine = digit(row, town);
        for (int other = 0; other < world.trade.size(); other++) {
            if (other == town) {
                continue;
            }
            if (digit(row, other) != 2) {
                worth += due(town, other);
            }
            if (mine == 2 && due(other, town) > 0) {
                worth -= digit(row, other) == 2 ? world.trade.get(other) / 2 : world.trade.get(other);
            }
        }
        return mine == 0 ? worth - owes(town) : mine == 1 ? worth - owes(town) / 2 - 10 : worth;
    }

    int has(int town, int row) {
        if (noTown(town) || row < 0 || row >= (int) Math.pow(3, world.trade.size())) {
            return BAD;
        }
        return worth(town, row);
    }

    int rest(int i) {
        if (i < -1) {
            return BAD;
        }
        if (world == null) {
            return STATE;
        }
        List<Integer> rows = new ArrayList<>();
        int n = world.trade.size();
        for (int row = 0; row < (int) Math.pow(3, n); row++) {
            boolean rests = true;
            for (int town = 0; town < n && rests; town++) {
                int power = (int) Math.pow(3, town);
                for (int choice = 0; choice < 3; choice++) {
                    rests &= worth(town, row + (choice - digit(row, town)) * power) <= worth(town, row);
                }
            }
            if (rests) {
                rows.add(row);
            }
        }
        return i == -1 ? rows.size() : i < rows.size() ? rows.get(i) : NONE;
    }

    int holds(int a, int b, int w) {
        if (noTown(a) || noTown(b) || a == b || w < 0 || w > 99) {
            return BAD;
        }
        boolean first = due(a, b) * (100 - w) <= world.trade.get(b) * w;
        boolean second = due(b, a) * (100 - w) <= world.trade.get(a) * w;
        return first && second ? 1 : 0;
    }

    int reform(int n) {
        if (n < 1 || n > 10) {
            return BAD;
        }
        if (world == null) {
            return STATE;
        }
        long best = Long.MAX_VALUE;
        int[] mosts = {25, 50, 75, 100};
        for (int asked = 0; asked < 4; asked++) {
            for (int most = 0; most < 4; most++) {
                for (int rest = 0; rest < 4; rest++) {
                    World w = world.like();
                    for (int t = 0; t < w.laws.size(); t++) {
                        w.laws.set(t, new int[] {asked, mosts[most], rest % 2, rest / 2});
                    }
                    w = growth(w, n);
                    int number = asked + 4 * most + 16 * (rest % 2) + 32 * (rest / 2);
                    best = Math.min(best, ((long) w.left() * 1000000 + w.seized - world.seized) * 64 + number);
                }
            }
        }
        return (int) (best % 64);
    }

    int image(int k) {
        if (k < 0 || k > 1) {
            return BAD;
        }
        if (world == null) {
            return STATE;
        }
        images[k] = world.like();
        return 1;
    }

    int restore(int k) {
        if (k < 0 || k > 1) {
            return BAD;
        }
        if (images[k] == null) {
            return STATE;
        }
        world = images[k].like();
        return 1;
    }

    // ---- asked

    /** The kinds with their parents as real classes, whose bodies call those above by super. */
    private class Asked {
        final Debt d;
        final int number;

        Asked(int number) {
            this.number = number;
            d = world.debts.get(number);
        }

        int size() {
            trace.add(10);
            return d.left;
        }

        int mark() {
            trace.add(20);
            return number;
        }
    }

    private class Own extends Asked {
        Own(int number) {
            super(number);
        }

        @Override int size() {
            trace.add(11);
            int base = super.size();
            return base + mark();
        }

        @Override int mark() {
            trace.add(21);
            return super.mark() + 100 * d.owes;
        }
    }

    private final class Back extends Own {
        Back(int number) {
            super(number);
        }

        @Override int size() {
            trace.add(12);
            return super.size() - d.sum;
        }
    }

    private class OfTown extends Asked {
        OfTown(int number) {
            super(number);
        }

        @Override int size() {
            trace.add(13);
            return super.size() * (1 + d.asked);
        }

        @Override int mark() {
            trace.add(22);
            return super.mark() + 1000;
        }
    }

    private final class Lettered extends OfTown {
        Lettered(int number) {
            super(number);
        }

        @Override int size() {
            trace.add(14);
            return super.size() + d.letterLeft;
        }

        @Override int mark() {
            trace.add(23);
            int base = super.mark();
            return base + size();
        }
    }

    private class Safe extends Asked {
        Safe(int number) {
            super(number);
        }

        @Override int size() {
            trace.add(15);
            return -super.size();
        }
    }

    private final class Paid extends Safe {
        Paid(int number) {
            super(number);
        }

        @Override int mark() {
            trace.add(24);
            return super.mark() - d.sum;
        }
    }

    private Asked told(int c) {
        Debt d = world.debts.get(c);
        boolean town = d.asked >= world.laws.get(world.of(d.has))[0];
        if (d.left == 0) {
            return new Paid(c);
        }
        if (world.pacts.contains(pair(world.of(d.has), world.of(d.owes)))) {
            return new Safe(c);
        }
        if (d.from != NONE) {
            return new Back(c);
        }
        return town && letterRuns(world, d) ? new Lettered(c) : town ? new OfTown(c) : new Own(c);
    }

    private static final List<Class<?>> CLASSES = List.of(Asked.class, Own.class, OfTown.class, Lettered.class,
        Back.class, Safe.class, Paid.class);

    int kind(int c) {
        return noClaim(c) ? BAD : CLASSES.indexOf(told(c).getClass());
    }

    int as(int c, int kind) {
        if (noClaim(c) || kind < 0 || kind > 6) {
            return BAD;
        }
        if (!CLASSES.get(kind).isInstance(told(c))) {
            return found(3);
        }
        found(0);
        return c;
    }

    int asks(int c, int what) {
        if (noClaim(c) || what < 0 || what > 1) {
            return BAD;
        }
        trace = new ArrayList<>();
        return what == 0 ? told(c).size() : told(c).mark();
    }

    int trace(int i) {
        return i >= 0 && i < Math.min(16, trace.size()) ? trace.get(i) : NONE;
    }

    int count(int what) {
        World w = world == null ? new World() : world;
        switch (what) {
            case 0: return (int) Arrays.stream(sheets).filter(s -> s != null).count();
            case 1: return w.trade.size();
            case 2: return w.men.size();
            case 3: return w.roads.size();
            case 4: return w.fairs.size();
            case 5: return w.pacts.size();
            case 6: return w.debts.size();
            case 7: return (int) w.debts.stream().filter(d -> d.left == 0).count();
            case 8: return w.seized;
            case 9: return w.day;
            case 10: return tape.length();
            default: return BAD;
        }
    }

    int status() {
        return status;
    }
}
