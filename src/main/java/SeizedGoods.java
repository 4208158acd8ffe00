import java.util.Arrays;

/** Towns whose men are seized for what a countryman owes: see the document for every word used here. */
public final class SeizedGoods {
    public static final int NONE = -1000000, BAD = -1000001, STATE = -1000002, FULL = -1000003;

    private static final int FOUND_BASE = -1000010, FAULT_BASE = -1000100;
    private static final int FOUND_NULL = 1, FOUND_PLACE = 2, FOUND_KIND = 3, FOUND_SIZE = 4, FOUND_STORE = 5;

    private static final int MAX_TOWNS = 6, MAX_MEN = 12, MAX_FAIRS = 4, MAX_CLAIMS = 24;
    private static final int MAX_SUM = 999, MAX_DAY = 999, MAX_DEBT_ROWS = 10, IMAGES = 2;

    private static final int LAW_PARTS = 4;
    private static final int LAW_ASKED = 0, LAW_MOST = 1, LAW_BACK = 2, LAW_LETTER = 3, LAW_TRADE = 4;

    private static final int KIND_CLAIM = 0, KIND_OWN = 1, KIND_TOWN = 2, KIND_LETTERED = 3;
    private static final int KIND_BACK = 4, KIND_SAFE = 5, KIND_PAID = 6, KINDS = 7;
    private static final int[] KIND_ABOVE = {NONE, KIND_CLAIM, KIND_CLAIM, KIND_TOWN, KIND_OWN, KIND_CLAIM, KIND_SAFE};

    private final Sheets sheets;
    private final Reader reader;
    private final Future future;
    private final Ledger ledger;
    private final Travel travel;
    private final Council council;
    private final Asker asker;
    private final Land[] images;
    private Land land;
    // A text is read into this one, so that a fault in it leaves the land as it was.
    private Land unread;
    private int latestFault;
    private int latestFinding;

    public SeizedGoods() {
        sheets = new Sheets();
        reader = new Reader();
        future = new Future();
        ledger = new Ledger();
        travel = new Travel();
        council = new Council();
        asker = new Asker();
        images = new Land[IMAGES];
        for (int k = 0; k < IMAGES; k++) {
            images[k] = new Land();
        }
        land = new Land();
        unread = new Land();
        latestFault = 0;
        latestFinding = 0;
    }

    // ---- sheets

    public int sheet(int sheet, int lane, int n) {
        if (!Sheets.isNumber(sheet) || !Sheets.isLane(lane) || n > Sheets.MAX_ITEMS) {
            return BAD;
        }
        if (n < 0) {
            return found(FOUND_SIZE);
        }
        sheets.renew(sheet, lane, n);
        return unfound(n);
    }

    public int set(int sheet, int i, int v) {
        if (!Sheets.isNumber(sheet)) {
            return BAD;
        }
        if (sheets.isMissing(sheet)) {
            return found(FOUND_NULL);
        }
        if (!sheets.hasRange(sheet, i, 1)) {
            return found(FOUND_PLACE);
        }
        return unfound(sheets.put(sheet, i, v));
    }

    public int copy(int a, int i, int b, int j, int n) {
        if (!Sheets.isNumber(a) || !Sheets.isNumber(b)) {
            return BAD;
        }
        if (sheets.isMissing(a) || sheets.isMissing(b)) {
            return found(FOUND_NULL);
        }
        if (sheets.laneOf(a) != sheets.laneOf(b)) {
            return found(FOUND_STORE);
        }
        if (!sheets.hasRange(a, i, n) || !sheets.hasRange(b, j, n)) {
            return found(FOUND_PLACE);
        }
        sheets.move(a, i, b, j, n);
        return unfound(n);
    }

    public int drop(int sheet) {
        if (!Sheets.isNumber(sheet)) {
            return BAD;
        }
        if (sheets.isMissing(sheet)) {
            return found(FOUND_NULL);
        }
        return unfound(sheets.remove(sheet));
    }

    // ---- lands, days

    public int feed(long w, int n) {
        if (n < 1 || n > 8) {
            return BAD;
        }
        if (!reader.hasRoom(n)) {
            return FULL;
        }
        return reader.take(w, n);
    }

    public int land() {
        boolean isRead = reader.readLand(unread);
        reader.empty();
        if (!isRead) {
            latestFault = reader.fault;
            return FAULT_BASE - reader.start;
        }
        Land before = land;
        land = unread;
        unread = before;
        return land.townCount;
    }

    public int fault() {
        return latestFault;
    }

    public int later(int n) {
        if (n < 0 || n > 100 || land.day + n > MAX_DAY) {
            return BAD;
        }
        if (land.isNone()) {
            return STATE;
        }
        land.day += n;
        return land.day;
    }

    public int goes(int man, int town) {
        if (!land.isMan(man) || !land.isTown(town)) {
            return BAD;
        }
        if (!land.hasRoad(land.places[man], town)) {
            return STATE;
        }
        land.places[man] = town;
        return 1;
    }

    public int man(int man, int what) {
        if (!land.isMan(man)) {
            return BAD;
        }
        switch (what) {
            case 0: return land.homes[man];
            case 1: return land.places[man];
            case 2: return land.balanceOf(man);
            default: return BAD;
        }
    }

    public int law(int town, int what) {
        if (!land.isTown(town) || what < LAW_ASKED || what > LAW_TRADE) {
            return BAD;
        }
        return what == LAW_TRADE ? land.trades[town] : land.lawOf(town, what);
    }

    public int pact(int a, int b, int is) {
        if (!land.areTwoTowns(a, b) || !isYesOrNo(is)) {
            return BAD;
        }
        int was = land.hasPact(a, b) ? 1 : 0;
        land.setPact(a, b, is == 1);
        return was;
    }

    // ---- claims

    public int debt(int who, int whom, int sum) {
        if (!land.canOwe(who, whom, sum)) {
            return BAD;
        }
        if (!land.hasRoom(1)) {
            return FULL;
        }
        return land.addClaim(whom, who, sum, NONE);
    }

    public int debts(int sheet, int i, int n) {
        if (!Sheets.isNumber(sheet) || n < 1 || n > MAX_DEBT_ROWS) {
            return BAD;
        }
        if (sheets.isMissing(sheet)) {
            return found(FOUND_NULL);
        }
        if (!sheets.hasRange(sheet, i, 3 * n)) {
            return found(FOUND_PLACE);
        }
        for (int row = 0; row < n; row++) {
            int at = i + 3 * row;
            if (!land.canOwe(sheets.item(sheet, at), sheets.item(sheet, at + 1), sheets.item(sheet, at + 2))) {
                return BAD;
            }
        }
        if (!land.hasRoom(n)) {
            return FULL;
        }
        for (int row = 0; row < n; row++) {
            int at = i + 3 * row;
            land.addClaim(sheets.item(sheet, at + 1), sheets.item(sheet, at), sheets.item(sheet, at + 2), NONE);
        }
        return unfound(land.claimCount);
    }

    public int ask(int claim) {
        if (!land.isClaim(claim)) {
            return BAD;
        }
        Claim asked = land.claims[claim];
        if (asked.isPaid()) {
            return STATE;
        }
        asked.asked++;
        return asked.asked;
    }

    public int letter(int claim, int sum, int n) {
        if (!land.isClaim(claim) || !isSum(sum) || n < 0 || n > 99) {
            return BAD;
        }
        Claim let = land.claims[claim];
        if (let.isPaid()) {
            return STATE;
        }
        let.letterDay = land.day + n;
        let.letterLeft = sum;
        return let.letterDay;
    }

    public int pay(int claim, int sum) {
        if (!land.isClaim(claim) || !isSum(sum)) {
            return BAD;
        }
        Claim paid = land.claims[claim];
        paid.left -= Math.min(sum, paid.left);
        return paid.left;
    }

    public int claim(int claim, int what) {
        if (!land.isClaim(claim)) {
            return BAD;
        }
        Claim told = land.claims[claim];
        switch (what) {
            case 0: return told.holder;
            case 1: return told.debtor;
            case 2: return told.sum;
            case 3: return told.left;
            case 4: return told.isBred() ? 1 : 0;
            case 5: return told.asked;
            case 6: return told.letterDay;
            case 7: return told.letterLeft;
            case 8: return told.source;
            default: return BAD;
        }
    }

    public int may(int claim, int man, int what) {
        if (!land.isClaim(claim) || !land.isMan(man) || !isYesOrNo(what)) {
            return BAD;
        }
        Claim asked = land.claims[claim];
        int word = land.wordLacked(asked, man, land.places[man]);
        if (what == 0) {
            return word;
        }
        return word == 0 ? land.mostOf(asked, land.places[man]) : NONE;
    }

    public int seize(int claim, int man, int sum) {
        if (!land.isClaim(claim) || !land.isMan(man) || !isSum(sum)) {
            return BAD;
        }
        Claim asked = land.claims[claim];
        int town = land.places[man];
        if (land.wordLacked(asked, man, town) != 0 || sum > land.mostOf(asked, town)) {
            return STATE;
        }
        return land.takeGoods(claim, man, sum);
    }

    public int swear(int town, int claim, int paid) {
        if (!land.isTown(town) || !land.isClaim(claim) || !isYesOrNo(paid)) {
            return BAD;
        }
        Claim sworn = land.claims[claim];
        int ahead = sworn.oathOf(town);
        sworn.setOath(town, paid);
        return ahead;
    }

    public int says(int claim) {
        return land.isClaim(claim) ? land.saying(land.claims[claim]) : BAD;
    }

    // ---- foretold

    public int grown(int n, int what) {
        if (n < 1 || n > 30 || what < 0 || what > 2) {
            return BAD;
        }
        if (land.isNone()) {
            return STATE;
        }
        return future.foretell(land, n, what);
    }

    public int net(int what) {
        if (what < 0 || what > 2) {
            return BAD;
        }
        if (land.isNone()) {
            return STATE;
        }
        switch (what) {
            case 0: return Ledger.coinOf(land);
            case 1: return Ledger.menOut(land);
            default: return ledger.fewestPayments(land);
        }
    }

    public int way(int man, int town) {
        if (!land.isMan(man) || !land.isTown(town)) {
            return BAD;
        }
        return travel.fewestRoads(land, man, town);
    }

    public int opened(int man, int town) {
        if (!land.isMan(man) || !land.isTown(town)) {
            return BAD;
        }
        return travel.fewestBars(land, man, town);
    }

    public int shut(int a, int b) {
        if (!land.areTwoTowns(a, b)) {
            return BAD;
        }
        return Travel.isShutAt(land, a, b) ? 1 : 0;
    }

    public int dead() {
        return land.isNone() ? STATE : Travel.deadPairs(land);
    }

    public int owes(int town) {
        if (!land.isTown(town)) {
            return BAD;
        }
        council.gather(land);
        return council.owedBy(town);
    }

    public int rest(int i) {
        if (i < -1) {
            return BAD;
        }
        if (land.isNone()) {
            return STATE;
        }
        council.gather(land);
        return i == -1 ? council.rowsAtRest() : council.rowAtRest(i);
    }

    public int has(int town, int choices) {
        if (!land.isTown(town)) {
            return BAD;
        }
        council.gather(land);
        if (choices < 0 || choices >= council.rows) {
            return BAD;
        }
        council.choose(choices);
        return council.worthOf(town);
    }

    public int holds(int a, int b, int w) {
        // A pact is one of two towns: with itself no town has one that could hold.
        if (!land.areTwoTowns(a, b) || w < 0 || w > 99) {
            return BAD;
        }
        council.gather(land);
        return council.isKept(a, b, w) && council.isKept(b, a, w) ? 1 : 0;
    }

    public int reform(int n) {
        if (n < 1 || n > 10) {
            return BAD;
        }
        if (land.isNone()) {
            return STATE;
        }
        return future.bestLaw(land, n);
    }

    public int image(int k) {
        if (k < 0 || k >= IMAGES) {
            return BAD;
        }
        if (land.isNone()) {
            return STATE;
        }
        images[k].becomeLike(land);
        return 1;
    }

    public int restore(int k) {
        if (k < 0 || k >= IMAGES) {
            return BAD;
        }
        if (images[k].isNone()) {
            return STATE;
        }
        land.becomeLike(images[k]);
        return 1;
    }

    // ---- asked

    public int kind(int claim) {
        return land.isClaim(claim) ? land.kindTold(land.claims[claim]) : BAD;
    }

    public int as(int claim, int kind) {
        if (!land.isClaim(claim) || kind < 0 || kind >= KINDS) {
            return BAD;
        }
        if (!isKindOf(land.kindTold(land.claims[claim]), kind)) {
            return found(FOUND_KIND);
        }
        return unfound(claim);
    }

    public int asks(int claim, int what) {
        if (!land.isClaim(claim) || !isYesOrNo(what)) {
            return BAD;
        }
        return asker.answer(land, claim, what);
    }

    public int trace(int i) {
        return asker.traced(i);
    }

    public int count(int what) {
        switch (what) {
            case 0: return sheets.present();
            case 1: return land.townCount;
            case 2: return land.manCount;
            case 3: return land.pairsIn(land.roads);
            case 4: return land.fairCount;
            case 5: return land.pairsIn(land.pacts);
            case 6: return land.claimCount;
            case 7: return land.paidClaims();
            case 8: return land.seized;
            case 9: return land.day;
            case 10: return reader.length;
            default: return BAD;
        }
    }

    public int status() {
        return latestFinding;
    }

    private int found(int finding) {
        latestFinding = finding;
        return FOUND_BASE - finding;
    }

    private int unfound(int answer) {
        latestFinding = 0;
        return answer;
    }

    private static boolean isYesOrNo(int number) {
        return number == 0 || number == 1;
    }

    private static boolean isSum(int sum) {
        return sum >= 1 && sum <= MAX_SUM;
    }

    private static boolean isKindOf(int told, int kind) {
        int above = told;
        for (int step = 0; step < KINDS && above >= 0; step++) {
            if (above == kind) {
                return true;
            }
            above = KIND_ABOVE[above];
        }
        return false;
    }

    /** The sheets, all their items in one row so that no call makes an array. */
    private static final class Sheets {
        static final int SHEETS = 8, MAX_ITEMS = 40, BYTES = 0, SHORTS = 1, INTS = 2;
        private static final int MISSING = -1;
        private final int[] items = new int[SHEETS * MAX_ITEMS];
        private final int[] lanes = new int[SHEETS];
        private final int[] sizes = new int[SHEETS];

        Sheets() {
            Arrays.fill(sizes, MISSING);
        }

        static boolean isNumber(int sheet) {
            return sheet >= 0 && sheet < SHEETS;
        }

        static boolean isLane(int lane) {
            return lane >= BYTES && lane <= INTS;
        }

        boolean isMissing(int sheet) {
            return sizes[sheet] == MISSING;
        }

        int laneOf(int sheet) {
            return lanes[sheet];
        }

        // The end is reached by taking away: i + n could wrap around.
        boolean hasRange(int sheet, int i, int n) {
            return i >= 0 && n >= 0 && n <= sizes[sheet] && i <= sizes[sheet] - n;
        }

        int item(int sheet, int i) {
            return items[sheet * MAX_ITEMS + i];
        }

        void renew(int sheet, int lane, int n) {
            int first = sheet * MAX_ITEMS;
            Arrays.fill(items, first, first + MAX_ITEMS, 0);
            lanes[sheet] = lane;
            sizes[sheet] = n;
        }

        int put(int sheet, int i, int v) {
            int kept = v;
            if (lanes[sheet] == BYTES) {
                kept = (byte) v;
            } else if (lanes[sheet] == SHORTS) {
                kept = (short) v;
            }
            items[sheet * MAX_ITEMS + i] = kept;
            return kept;
        }

        void move(int a, int i, int b, int j, int n) {
            System.arraycopy(items, a * MAX_ITEMS + i, items, b * MAX_ITEMS + j, n);
        }

        int remove(int sheet) {
            int size = sizes[sheet];
            sizes[sheet] = MISSING;
            return size;
        }

        int present() {
            int present = 0;
            for (int sheet = 0; sheet < SHEETS; sheet++) {
                if (!isMissing(sheet)) {
                    present++;
                }
            }
            return present;
        }
    }

    /** What one man has on another one. */
    private static final class Claim {
        int holder;
        int debtor;
        int sum;
        int left;
        int asked;
        int letterDay;
        int letterLeft;
        int source;
        int swornTowns;
        int paidTowns;

        void begin(int newHolder, int newDebtor, int newSum, int newSource) {
            holder = newHolder;
            debtor = newDebtor;
            sum = newSum;
            left = newSum;
            asked = 0;
            letterDay = NONE;
            letterLeft = NONE;
            source = newSource;
            swornTowns = 0;
            paidTowns = 0;
        }

        void becomeLike(Claim other) {
            holder = other.holder;
            debtor = other.debtor;
            sum = other.sum;
            left = other.left;
            asked = other.asked;
            letterDay = other.letterDay;
            letterLeft = other.letterLeft;
            source = other.source;
            swornTowns = other.swornTowns;
            paidTowns = other.paidTowns;
        }

        boolean isPaid() {
            return left == 0;
        }

        boolean isBred() {
            return source != NONE;
        }

        boolean hasLetterOn(int day) {
            return letterDay != NONE && day <= letterDay && letterLeft > 0;
        }

        int oathOf(int town) {
            if ((swornTowns >> town & 1) == 0) {
                return NONE;
            }
            return paidTowns >> town & 1;
        }

        void setOath(int town, int paid) {
            swornTowns |= 1 << town;
            paidTowns = paidTowns & ~(1 << town) | paid << town;
        }
    }

    /** A land with its day, claims and all that was seized; one without towns is none. */
    private static final class Land {
        static final int NOBODY = -1;
        private static final int FAIR_PARTS = 3;
        final int[] trades = new int[MAX_TOWNS];
        final int[] laws = new int[MAX_TOWNS * LAW_PARTS];
        final int[] roads = new int[MAX_TOWNS];
        final int[] pacts = new int[MAX_TOWNS];
        final int[] fairs = new int[MAX_FAIRS * FAIR_PARTS];
        final int[] homes = new int[MAX_MEN];
        final int[] places = new int[MAX_MEN];
        final Claim[] claims = new Claim[MAX_CLAIMS];
        int townCount;
        int manCount;
        int fairCount;
        int claimCount;
        int day;
        int seized;

        Land() {
            for (int c = 0; c < MAX_CLAIMS; c++) {
                claims[c] = new Claim();
            }
        }

        void clear() {
            Arrays.fill(roads, 0);
            Arrays.fill(pacts, 0);
            townCount = 0;
            manCount = 0;
            fairCount = 0;
            claimCount = 0;
            day = 0;
            seized = 0;
        }

        void becomeLike(Land other) {
            System.arraycopy(other.trades, 0, trades, 0, MAX_TOWNS);
            System.arraycopy(other.laws, 0, laws, 0, MAX_TOWNS * LAW_PARTS);
            System.arraycopy(other.roads, 0, roads, 0, MAX_TOWNS);
            System.arraycopy(other.pacts, 0, pacts, 0, MAX_TOWNS);
            System.arraycopy(other.fairs, 0, fairs, 0, MAX_FAIRS * FAIR_PARTS);
            System.arraycopy(other.homes, 0, homes, 0, MAX_MEN);
            System.arraycopy(other.places, 0, places, 0, MAX_MEN);
            for (int c = 0; c < other.claimCount; c++) {
                claims[c].becomeLike(other.claims[c]);
            }
            townCount = other.townCount;
            manCount = other.manCount;
            fairCount = other.fairCount;
            claimCount = other.claimCount;
            day = other.day;
            seized = other.seized;
        }

        boolean isNone() {
            return townCount == 0;
        }

        boolean isTown(int town) {
            return town >= 0 && town < townCount;
        }

        boolean areTwoTowns(int a, int b) {
            return isTown(a) && isTown(b) && a != b;
        }

        boolean isMan(int man) {
            return man >= 0 && man < manCount;
        }

        boolean isClaim(int claim) {
            return claim >= 0 && claim < claimCount;
        }

        void addTown(int trade) {
            trades[townCount] = trade;
            setLaw(townCount, 1, 100, 1, 0);
            townCount++;
        }

        void addMan(int town) {
            homes[manCount] = town;
            places[manCount] = town;
            manCount++;
        }

        void addRoad(int a, int b) {
            roads[a] |= 1 << b;
            roads[b] |= 1 << a;
        }

        boolean hasRoad(int a, int b) {
            return (roads[a] >> b & 1) == 1;
        }

        void setLaw(int town, int asked, int most, int back, int letter) {
            int first = town * LAW_PARTS;
            laws[first + LAW_ASKED] = asked;
            laws[first + LAW_MOST] = most;
            laws[first + LAW_BACK] = back;
            laws[first + LAW_LETTER] = letter;
        }

        int lawOf(int town, int part) {
            return laws[town * LAW_PARTS + part];
        }

        void addFair(int town, int from, int till) {
            int first = fairCount * FAIR_PARTS;
            fairs[first] = town;
            fairs[first + 1] = from;
            fairs[first + 2] = till;
            fairCount++;
        }

        boolean hasFair(int town) {
            for (int f = 0; f < fairCount; f++) {
                int first = f * FAIR_PARTS;
                if (fairs[first] == town && fairs[first + 1] <= day && day <= fairs[first + 2]) {
                    return true;
                }
            }
            return false;
        }

        void setPact(int a, int b, boolean is) {
            pacts[a] = is ? pacts[a] | 1 << b : pacts[a] & ~(1 << b);
            pacts[b] = is ? pacts[b] | 1 << a : pacts[b] & ~(1 << a);
        }

        boolean hasPact(int a, int b) {
            return (pacts[a] >> b & 1) == 1;
        }

        int pairsIn(int[] ties) {
            int ends = 0;
            for (int town = 0; town < townCount; town++) {
                ends += Integer.bitCount(ties[town]);
            }
            return ends / 2;
        }

        boolean canOwe(int debtor, int holder, int sum) {
            return isMan(debtor) && isMan(holder) && debtor != holder && isSum(sum);
        }

        boolean hasRoom(int more) {
            return claimCount + more <= MAX_CLAIMS;
        }

        int addClaim(int holder, int debtor, int sum, int source) {
            claims[claimCount].begin(holder, debtor, sum, source);
            claimCount++;
            return claimCount - 1;
        }

        int paidClaims() {
            int paid = 0;
            for (int c = 0; c < claimCount; c++) {
                if (claims[c].isPaid()) {
                    paid++;
                }
            }
            return paid;
        }

        int leftInAll() {
            int left = 0;
            for (int c = 0; c < claimCount; c++) {
                left += claims[c].left;
            }
            return left;
        }

        int balanceOf(int man) {
            int balance = 0;
            for (int c = 0; c < claimCount; c++) {
                if (claims[c].holder == man) {
                    balance += claims[c].left;
                }
                if (claims[c].debtor == man) {
                    balance -= claims[c].left;
                }
            }
            return balance;
        }

        int wordLacked(Claim claim, int man, int town) {
            return wordLacked(claim, man, homes[man], town);
        }

        /** The man may be NOBODY, a new one of that home who has and owes nothing. */
        int wordLacked(Claim claim, int man, int home, int town) {
            if (claim.isPaid()) {
                return 1;
            }
            if (places[claim.holder] != town) {
                return 2;
            }
            int holderHome = homes[claim.holder];
            if (man == claim.holder || home == holderHome) {
                return 3;
            }
            if (hasPact(home, holderHome)) {
                return 4;
            }
            if (hasFair(town)) {
                return 5;
            }
            boolean owesIt = man == claim.debtor;
            if (!owesIt && home != homes[claim.debtor]) {
                return 6;
            }
            if (!owesIt && claim.asked < lawOf(town, LAW_ASKED)) {
                return 7;
            }
            if (lawOf(town, LAW_LETTER) == 1 && !claim.hasLetterOn(day)) {
                return 8;
            }
            return 0;
        }

        int mostOf(Claim claim, int town) {
            int most = Math.max(1, claim.left * lawOf(town, LAW_MOST) / 100);
            return lawOf(town, LAW_LETTER) == 1 ? Math.min(most, claim.letterLeft) : most;
        }

        /** Goods of a man are seized where he is; it must be lawful, and the sum no more than the most. */
        int takeGoods(int number, int man, int sum) {
            Claim claim = claims[number];
            int town = places[man];
            claim.left -= sum;
            if (lawOf(town, LAW_LETTER) == 1) {
                claim.letterLeft -= sum;
            }
            seized += sum;
            if (lawOf(town, LAW_BACK) == 0 || man == claim.debtor || !hasRoom(1)) {
                return NONE;
            }
            return addClaim(man, claim.debtor, sum, number);
        }

        int saying(Claim claim) {
            int ofHolder = homes[claim.holder];
            int ofDebtor = homes[claim.debtor];
            int first = claim.oathOf(ofHolder);
            int second = claim.oathOf(ofDebtor);
            if (first == NONE && second == NONE) {
                return 0;
            }
            if (first == NONE || second == NONE || first == second) {
                return Math.max(first, second) == 1 ? 1 : 2;
            }
            for (int town = 0; town < townCount; town++) {
                int oath = claim.oathOf(town);
                if (town != ofHolder && town != ofDebtor && oath != NONE) {
                    return oath == 1 ? 4 : 5;
                }
            }
            return 3;
        }

        int kindTold(Claim claim) {
            int holderHome = homes[claim.holder];
            if (claim.isPaid()) {
                return KIND_PAID;
            }
            if (hasPact(holderHome, homes[claim.debtor])) {
                return KIND_SAFE;
            }
            if (claim.isBred()) {
                return KIND_BACK;
            }
            if (claim.asked < lawOf(holderHome, LAW_ASKED)) {
                return KIND_OWN;
            }
            return claim.hasLetterOn(day) ? KIND_LETTERED : KIND_TOWN;
        }
    }

    /** The tape, and the text on it read into a land. */
    private static final class Reader {
        private static final int MAX_BYTES = 500, MAX_FIGURES = 3;
        private static final int NAME = 0, NUMBER = 1, SIGN = 2, END = 3, NOTHING = 4, BLANK = 5;
        private static final int CANNOT_STAND = 1, NOT_AS_TOLD = 2, NO_ROOM = 3;
        private static final int TOWN = 0, MAN = 1, ROAD = 2, LAW = 3, FAIR = 4, PACT = 5, SORTS = 6, NO_WORD = -1;
        private static final int[] ROOM = {MAX_TOWNS, MAX_MEN, 12, 12, MAX_FAIRS, 12};
        private static final int FAULTY = -1;
        private final int[] tape = new int[MAX_BYTES];
        private final int[] told = new int[SORTS];
        private Land into;
        private int token;
        private int end;
        private int value;
        int length;
        int start;
        int fault;

        boolean hasRoom(int n) {
            return length + n <= MAX_BYTES;
        }

        int take(long w, int n) {
            for (int k = n - 1; k >= 0; k--) {
                tape[length] = (int) (w >> 8 * k & 255);
                length++;
            }
            return length;
        }

        void empty() {
            length = 0;
        }

        /** Whether it could be read: else the fault is told, and start is its place. */
        boolean readLand(Land target) {
            into = target;
            into.clear();
            Arrays.fill(told, 0);
            fault = 0;
            end = 0;
            nextToken();
            int latest = TOWN;
            // Each round goes past one word at least, so there are fewer rounds than bytes.
            for (int round = 0; round < MAX_BYTES && token != END; round++) {
                int word = wordTold();
                if (word < latest || told[TOWN] == 0 && word != TOWN) {
                    return fails(CANNOT_STAND);
                }
                if (told[word] == ROOM[word]) {
                    return fails(NO_ROOM);
                }
                told[word]++;
                latest = word;
                nextToken();
                if (!readRow(word) || !readSemicolon()) {
                    return false;
                }
            }
            return told[TOWN] > 0 || fails(CANNOT_STAND);
        }

        private boolean fails(int number) {
            fault = number;
            return false;
        }

        private int wordTold() {
            if (token != NAME) {
                return NO_WORD;
            }
            if (isName("town")) {
                return TOWN;
            }
            if (isName("man")) {
                return MAN;
            }
            if (isName("road")) {
                return ROAD;
            }
            if (isName("law")) {
                return LAW;
            }
            if (isName("fair")) {
                return FAIR;
            }
            return isName("pact") ? PACT : NO_WORD;
        }

        private boolean isName(String word) {
            if (end - start != word.length()) {
                return false;
            }
            for (int k = 0; k < word.length(); k++) {
                if (tape[start + k] != word.charAt(k)) {
                    return false;
                }
            }
            return true;
        }

        private boolean readRow(int word) {
            switch (word) {
                case TOWN: return readTown();
                case MAN: return readMan();
                case LAW: return readLaw();
                case FAIR: return readFair();
                default: return readPair(word == ROAD);
            }
        }

        private boolean readTown() {
            int trade = readNumber(0, 99);
            if (trade == FAULTY) {
                return false;
            }
            into.addTown(trade);
            return true;
        }

        private boolean readMan() {
            int town = readNumber(0, into.townCount - 1);
            if (town == FAULTY) {
                return false;
            }
            into.addMan(town);
            return true;
        }

        private boolean readPair(boolean isRoad) {
            int a = readNumber(0, into.townCount - 1);
            if (a == FAULTY) {
                return false;
            }
            if (token == NUMBER && value == a) {
                return fails(NOT_AS_TOLD);
            }
            int b = readNumber(0, into.townCount - 1);
            if (b == FAULTY) {
                return false;
            }
            if (isRoad) {
                into.addRoad(a, b);
            } else {
                into.setPact(a, b, true);
            }
            return true;
        }

        private boolean readLaw() {
            int town = readNumber(0, into.townCount - 1);
            int asked = readNumber(0, 3);
            int most = readNumber(1, 100);
            int back = readNumber(0, 1);
            int letter = readNumber(0, 1);
            if (fault != 0) {
                return false;
            }
            into.setLaw(town, asked, most, back, letter);
            return true;
        }

        private boolean readFair() {
            int town = readNumber(0, into.townCount - 1);
            int from = readNumber(0, MAX_DAY);
            int till = readNumber(from, MAX_DAY);
            if (fault != 0) {
                return false;
            }
            into.addFair(town, from, till);
            return true;
        }

        /** The number that stands here; behind a fault nothing more is read, so that the first one stays. */
        private int readNumber(int least, int most) {
            if (fault != 0) {
                return FAULTY;
            }
            if (token != NUMBER) {
                fault = CANNOT_STAND;
                return FAULTY;
            }
            if (value < least || value > most) {
                fault = NOT_AS_TOLD;
                return FAULTY;
            }
            int read = value;
            nextToken();
            return read;
        }

        private boolean readSemicolon() {
            if (token != SIGN) {
                return fails(CANNOT_STAND);
            }
            nextToken();
            return true;
        }

        private void nextToken() {
            start = end;
            while (start < length && sortAt(start) == BLANK) {
                start++;
            }
            end = start;
            token = sortAt(start);
            value = 0;
            boolean runsOn = token == NAME || token == NUMBER;
            int most = runsOn ? length : Math.min(length, start + 1);
            while (end < most && sortAt(end) == token) {
                // Figures beyond the third are not reckoned: a row of hundreds of them would wrap around.
                if (end - start < MAX_FIGURES) {
                    value = value * 10 + tape[end] - '0';
                }
                end++;
            }
            if (token == NUMBER && end - start > MAX_FIGURES) {
                token = NOTHING;
            }
        }

        private int sortAt(int place) {
            if (place >= length) {
                return END;
            }
            int sign = tape[place];
            if (sign == ' ' || sign == '\n') {
                return BLANK;
            }
            if (sign >= 'a' && sign <= 'z') {
                return NAME;
            }
            if (sign >= '0' && sign <= '9') {
                return NUMBER;
            }
            return sign == ';' ? SIGN : NOTHING;
        }
    }

    /** A copy of the land in which all seize what they may. */
    private static final class Future {
        private static final int LAWS = 64;
        private final Land copied = new Land();

        int foretell(Land land, int days, int what) {
            copied.becomeLike(land);
            growBy(days);
            switch (what) {
                case 0: return copied.claimCount;
                case 1: return copied.seized - land.seized;
                default: return copied.leftInAll();
            }
        }

        int bestLaw(Land land, int days) {
            int best = 0;
            int leastLeft = 0;
            int leastSeized = 0;
            for (int number = 0; number < LAWS; number++) {
                copied.becomeLike(land);
                giveLaw(number);
                growBy(days);
                int left = copied.leftInAll();
                int seized = copied.seized - land.seized;
                boolean isLess = left < leastLeft || left == leastLeft && seized < leastSeized;
                if (number == 0 || isLess) {
                    best = number;
                    leastLeft = left;
                    leastSeized = seized;
                }
            }
            return best;
        }

        private void giveLaw(int number) {
            int most = 25 * (1 + (number >> 2 & 3));
            for (int town = 0; town < copied.townCount; town++) {
                copied.setLaw(town, number & 3, most, number >> 4 & 1, number >> 5 & 1);
            }
        }

        private void growBy(int days) {
            for (int d = 0; d < days; d++) {
                // Claims bred this day wait for the next one.
                int claims = copied.claimCount;
                for (int c = 0; c < claims; c++) {
                    seizeFor(c);
                }
                copied.day++;
            }
        }

        private void seizeFor(int number) {
            Claim claim = copied.claims[number];
            if (claim.isPaid()) {
                return;
            }
            for (int man = 0; man < copied.manCount; man++) {
                int town = copied.places[man];
                if (copied.wordLacked(claim, man, town) == 0) {
                    copied.takeGoods(number, man, copied.mostOf(claim, town));
                    return;
                }
            }
        }
    }

    /** What men have and owe, one against the other. */
    private static final class Ledger {
        private final int[] open = new int[MAX_MEN];
        private final byte[] groups = new byte[1 << MAX_MEN];

        static int coinOf(Land land) {
            int coin = 0;
            for (int man = 0; man < land.manCount; man++) {
                coin += Math.max(0, land.balanceOf(man));
            }
            return coin;
        }

        static int menOut(Land land) {
            int out = 0;
            for (int c = 0; c < land.claimCount; c++) {
                Claim claim = land.claims[c];
                if (!claim.isPaid()) {
                    out |= 1 << claim.holder | 1 << claim.debtor;
                }
            }
            for (int man = 0; man < land.manCount; man++) {
                if (land.balanceOf(man) != 0) {
                    out &= ~(1 << man);
                }
            }
            return out;
        }

        /** A group of n men whose balances come to 0 needs n - 1 payments: so the more groups, the fewer payments. */
        int fewestPayments(Land land) {
            int men = 0;
            for (int man = 0; man < land.manCount; man++) {
                int balance = land.balanceOf(man);
                if (balance != 0) {
                    open[men] = balance;
                    men++;
                }
            }
            return men - mostGroups(men);
        }

        /** In an order of men that ends each group ahead of the next, a sum of 0 ends a group. */
        private int mostGroups(int men) {
            int all = (1 << men) - 1;
            groups[0] = 0;
            for (int set = 1; set <= all; set++) {
                int sum = 0;
                int most = 0;
                for (int man = 0; man < men; man++) {
                    if ((set >> man & 1) == 1) {
                        sum += open[man];
                        most = Math.max(most, groups[set & ~(1 << man)]);
                    }
                }
                groups[set] = (byte) (sum == 0 ? most + 1 : most);
            }
            return groups[all];
        }
    }

    /** Where one can go. */
    private static final class Travel {
        private final int[] bars = new int[MAX_TOWNS];
        private int best;

        int fewestRoads(Land land, int man, int town) {
            findBars(land, man);
            int reached = 1 << land.places[man];
            for (int roads = 0; roads < MAX_TOWNS; roads++) {
                if ((reached >> town & 1) == 1) {
                    return roads;
                }
                reached |= openNeighbours(land, reached);
            }
            return NONE;
        }

        private int openNeighbours(Land land, int reached) {
            int next = 0;
            for (int town = 0; town < land.townCount; town++) {
                if (bars[town] == 0 && (land.roads[town] & reached) != 0) {
                    next |= 1 << town;
                }
            }
            return next;
        }

        int fewestBars(Land land, int man, int town) {
            findBars(land, man);
            best = NONE;
            int from = land.places[man];
            walk(land, from, town, 1 << from, 0);
            return best;
        }

        // No town is come to twice, so it goes no deeper than there are towns.
        private void walk(Land land, int at, int goal, int seen, int barred) {
            if (at == goal) {
                choose(barred);
                return;
            }
            for (int next = 0; next < land.townCount; next++) {
                boolean isNew = (seen >> next & 1) == 0;
                if (isNew && land.hasRoad(at, next)) {
                    walk(land, next, goal, seen | 1 << next, barred | bars[next]);
                }
            }
        }

        private void choose(int barred) {
            int fewer = best == NONE ? -1 : Integer.compare(Integer.bitCount(barred), Integer.bitCount(best));
            if (fewer < 0 || fewer == 0 && barred < best) {
                best = barred;
            }
        }

        /** The claims, as bits, that would be lawful against a man in each town. */
        private void findBars(Land land, int man) {
            for (int town = 0; town < land.townCount; town++) {
                bars[town] = 0;
                for (int c = 0; c < land.claimCount; c++) {
                    if (land.wordLacked(land.claims[c], man, town) == 0) {
                        bars[town] |= 1 << c;
                    }
                }
            }
        }

        static boolean isShutAt(Land land, int a, int b) {
            for (int c = 0; c < land.claimCount; c++) {
                if (land.wordLacked(land.claims[c], Land.NOBODY, a, b) == 0) {
                    return true;
                }
            }
            return false;
        }

        static int deadPairs(Land land) {
            int dead = 0;
            for (int a = 0; a < land.townCount; a++) {
                for (int b = a + 1; b < land.townCount; b++) {
                    if (isShutAt(land, a, b) || isShutAt(land, b, a)) {
                        dead++;
                    }
                }
            }
            return dead;
        }
    }

    /** What towns choose, each given the others. */
    private static final class Council {
        private static final int PAY = 0, MAKE = 1, LET_BE = 2, CHOICES = 3;
        private final int[] due = new int[MAX_TOWNS * MAX_TOWNS];
        private final int[] trades = new int[MAX_TOWNS];
        private final int[] chosen = new int[MAX_TOWNS];
        private int towns;
        int rows;

        /** All that is answered here is of the land that was gathered last. */
        void gather(Land land) {
            towns = land.townCount;
            rows = 1;
            for (int town = 0; town < towns; town++) {
                rows *= CHOICES;
                trades[town] = land.trades[town];
            }
            Arrays.fill(due, 0);
            for (int c = 0; c < land.claimCount; c++) {
                Claim claim = land.claims[c];
                int holderHome = land.homes[claim.holder];
                int debtorHome = land.homes[claim.debtor];
                if (holderHome != debtorHome) {
                    due[holderHome * MAX_TOWNS + debtorHome] += claim.left;
                }
            }
        }

        private int dueTo(int holder, int debtor) {
            return due[holder * MAX_TOWNS + debtor];
        }

        int owedBy(int town) {
            int owed = 0;
            for (int other = 0; other < towns; other++) {
                owed += dueTo(other, town);
            }
            return owed;
        }

        void choose(int row) {
            int rest = row;
            for (int town = 0; town < towns; town++) {
                chosen[town] = rest % CHOICES;
                rest /= CHOICES;
            }
        }

        int worthOf(int town) {
            return gain(town) - loss(town, chosen[town]);
        }

        private int gain(int town) {
            int gain = 0;
            for (int other = 0; other < towns; other++) {
                if (chosen[other] != LET_BE) {
                    gain += dueTo(town, other);
                }
            }
            return gain;
        }

        private int loss(int town, int choice) {
            switch (choice) {
                case PAY: return owedBy(town);
                case MAKE: return owedBy(town) / 2 + 10;
                default: return tradeLost(town);
            }
        }

        private int tradeLost(int town) {
            int lost = 0;
            for (int other = 0; other < towns; other++) {
                if (dueTo(other, town) > 0) {
                    lost += chosen[other] == LET_BE ? trades[other] / 2 : trades[other];
                }
            }
            return lost;
        }

        int rowsAtRest() {
            int found = 0;
            for (int row = 0; row < rows; row++) {
                if (isAtRest(row)) {
                    found++;
                }
            }
            return found;
        }

        int rowAtRest(int i) {
            int found = 0;
            for (int row = 0; row < rows; row++) {
                if (isAtRest(row)) {
                    if (found == i) {
                        return row;
                    }
                    found++;
                }
            }
            return NONE;
        }

        // What a town gets hangs on the others alone, so that only its losses are weighed.
        private boolean isAtRest(int row) {
            choose(row);
            for (int town = 0; town < towns; town++) {
                int now = loss(town, chosen[town]);
                for (int choice = 0; choice < CHOICES; choice++) {
                    if (loss(town, choice) < now) {
                        return false;
                    }
                }
            }
            return true;
        }

        boolean isKept(int town, int other, int w) {
            return dueTo(town, other) * (100 - w) <= trades[other] * w;
        }
    }

    /** Asks of claims, answered by the bodies that are told for their kinds. */
    private static final class Asker {
        private static final int MAX_TRACE = 16, MAX_DEPTH = 16, ASK_MARK = 1;
        // By kinds: the body told for it; 0: none is, and the kind above has to do.
        private static final int[] SIZE_BODIES = {10, 11, 13, 14, 12, 15, 0};
        private static final int[] MARK_BODIES = {20, 21, 22, 23, 0, 0, 24};
        private final int[] left = new int[MAX_TRACE];
        private int leftCount;
        private Claim asked;
        private int number;
        private int sizeBody;
        private int markBody;

        int answer(Land land, int claim, int what) {
            leftCount = 0;
            asked = land.claims[claim];
            number = claim;
            int kind = land.kindTold(asked);
            sizeBody = nearestBody(SIZE_BODIES, kind);
            markBody = nearestBody(MARK_BODIES, kind);
            return given(what == ASK_MARK ? markBody : sizeBody, 0);
        }

        int traced(int i) {
            return i >= 0 && i < leftCount ? left[i] : NONE;
        }

        private static int nearestBody(int[] bodies, int kind) {
            int nearest = kind;
            for (int step = 0; step < KINDS && bodies[nearest] == 0 && KIND_ABOVE[nearest] >= 0; step++) {
                nearest = KIND_ABOVE[nearest];
            }
            return bodies[nearest];
        }

        private int given(int body, int depth) {
            if (depth > MAX_DEPTH) {
                return 0;
            }
            if (leftCount < MAX_TRACE) {
                left[leftCount] = body;
                leftCount++;
            }
            int next = depth + 1;
            switch (body) {
                case 10: return asked.left;
                case 11: return given(10, next) + given(markBody, next);
                case 12: return given(11, next) - asked.sum;
                case 13: return given(10, next) * (1 + asked.asked);
                case 14: return given(13, next) + asked.letterLeft;
                case 15: return -given(10, next);
                case 20: return number;
                case 21: return given(20, next) + 100 * asked.debtor;
                case 22: return given(20, next) + 1000;
                case 23: return given(22, next) + given(sizeBody, next);
                case 24: return given(20, next) - asked.sum;
                default: return 0;
            }
        }
    }
}
