/**
 * Pages that sign for each other, machines that ask for them, and what stolen keys can do.
 * Every refusal is a number of the face; no call throws.
 */
public final class SignedPages {
    public static final int BAD = -1, FULL = -2, FINDING = -3, STATE = -4, NONE = -9;

    private static final int NOTHING = 1, BEYOND = 2, UNLIKE = 3, NOUGHT = 4, SIZE = 5;

    private static final int ROWS = 6, TEXTS = 4, PLACES = 40, PAGES = 40, MACHINES = 4;
    private static final int FILES = 10, KEYS = 10, SETS = 1024;
    private static final int LAST_DAY = 999, LAST_NUMBER = 99, LAST_SUM = 999;
    private static final int LAST_WHY = 6, LAST_HARM = 3, LAST_NOISE = 99, LAST_PRICE = 99;

    /** The steps R, H, T, L, N bear the numbers of the roles that sign for them. */
    private static final int ROOT = 0, HOUR = 1, TOGETHER = 2, LIST = 3, LENT = 4, ROLES = 5;

    private static final int NOTE_KIND = 0, ROOT_KIND = 1, LIST_KIND = 2, LENT_KIND = 3;
    private static final int TOGETHER_KIND = 4, HOUR_KIND = 5, KINDS = 6;
    private static final int[] KIND_OF_ROLE = {ROOT_KIND, HOUR_KIND, TOGETHER_KIND, LIST_KIND, LENT_KIND};
    private static final int[] ROLE_OF_KIND = {NONE, ROOT, LIST, LENT, TOGETHER, HOUR};

    private static final int HELD_BACK = 1, OTHER_KIND = 2, SHORT = 3, OVER = 4, OLDER = 5, NOT_NAMED = 6;
    private static final int NOT_TOLD = 7, OTHER_SUM = 8;

    /** ASKINGS look at four roles, each with at most four signatures. */
    private static final int ASKED_ROLES = 4, MOST_ASKED = 4, SPAN = MOST_ASKED + 1;

    private final Row[] rows = new Row[ROWS];
    private final Text[] texts = new Text[TEXTS];
    private final Page[] pages = new Page[PAGES];
    private final Machine[] machines = new Machine[MACHINES];
    private final int[] refusals = new int[ROLES * LAST_WHY];
    private final int[] findingTimes = new int[SIZE + 1];
    private final Plan triedPlan = new Plan();
    private final int[] triedHeld = new int[ROLES];
    private final boolean[] made = new boolean[SPAN * SPAN * SPAN];
    private int pageCount;
    private int day;
    private int latestFinding;
    private int latestAsked;
    private long latestUpper;
    private long latestLower = 1;

    /** A ROW; its places are kept when it is missing, so that it can be begun anew without a new array. */
    private static final class Row {
        final int[] places = new int[PLACES];
        int size = -1;

        boolean isThere() {
            return size >= 0;
        }

        boolean has(int i) {
            return i >= 0 && i < size;
        }

        boolean hasRun(int i, int n) {
            return i >= 0 && n >= 0 && i <= size - n;
        }

        void begin(int n) {
            size = Math.max(0, Math.min(PLACES, n));
            for (int i = 0; i < size; i++) {
                places[i] = 0;
            }
        }

        boolean allWithin(int least, int most) {
            for (int i = 0; i < size; i++) {
                if (places[i] < least || places[i] > most) {
                    return false;
                }
            }
            return true;
        }
    }

    /** A TEXT, kept as a Row is. */
    private static final class Text {
        static final int BLANK = 32;
        final byte[] bytes = new byte[PLACES];
        int size = -1;

        boolean isThere() {
            return size >= 0;
        }

        boolean has(int i) {
            return i >= 0 && i < size;
        }

        void begin(int n) {
            size = Math.max(0, Math.min(PLACES, n));
            for (int i = 0; i < size; i++) {
                bytes[i] = BLANK;
            }
        }
    }

    /** A PAGE; one that is nothing more is a note. */
    private static class Page {
        final int kind;
        final int number;
        final int till;
        int signers;
        int holders;

        Page(int kind, int number, int till) {
            this.kind = kind;
            this.number = number;
            this.till = till;
        }

        /** What mark() tells of it by its own KIND. */
        int ownMark() {
            return 0;
        }
    }

    private static final class Root extends Page {
        final int[] keys = new int[ROLES];
        final int[] many = new int[ROLES];

        Root(int number, int till, Row row) {
            super(ROOT_KIND, number, till);
            for (int role = 0; role < ROLES; role++) {
                keys[role] = row.places[2 * role];
                many[role] = row.places[2 * role + 1];
            }
        }

        static boolean canBe(Row row) {
            for (int role = 0; role < ROLES; role++) {
                int set = row.places[2 * role];
                int due = row.places[2 * role + 1];
                if (set < 1 || set >= SETS || due < 1 || due > Integer.bitCount(set)) {
                    return false;
                }
            }
            return true;
        }

        boolean isMade(int role, int set) {
            return role >= 0 && role < ROLES && Integer.bitCount(set & keys[role]) >= many[role];
        }

        boolean takes(Page page) {
            return isMade(ROLE_OF_KIND[page.kind], page.signers);
        }

        int ownMark() {
            int all = 0;
            for (int role = 0; role < ROLES; role++) {
                all += many[role];
            }
            return all;
        }
    }

    private static class Listing extends Page {
        final int[] sums = new int[FILES];
        final int lends;
        final int files;

        Listing(int kind, int number, int till, Row row, int lends) {
            super(kind, number, till);
            this.lends = lends;
            this.files = row.size / 2;
            for (int file = 0; file < FILES; file++) {
                sums[file] = NONE;
            }
            for (int i = 0; i + 1 < row.size; i += 2) {
                int file = row.places[i];
                if (file >= 0 && file < FILES) {
                    sums[file] = row.places[i + 1];
                }
            }
        }

        static boolean canBe(Row row) {
            int seen = 0;
            for (int i = 0; i + 1 < row.size; i += 2) {
                int file = row.places[i];
                int sum = row.places[i + 1];
                if (file < 0 || file >= FILES || (seen >> file & 1) != 0 || sum < 0 || sum > LAST_SUM) {
                    return false;
                }
                seen |= 1 << file;
            }
            return true;
        }

        int sumFor(int file) {
            return file >= 0 && file < FILES ? sums[file] : NONE;
        }

        boolean lendsOut(int file) {
            return (lends >> file & 1) != 0;
        }

        int ownMark() {
            return files;
        }
    }

    private static final class Lent extends Listing {
        Lent(int number, int till, Row row) {
            super(LENT_KIND, number, till, row, 0);
        }

        int ownMark() {
            int greatest = 0;
            for (int file = 0; file < FILES; file++) {
                greatest = Math.max(greatest, sums[file]);
            }
            return greatest;
        }
    }

    private static final class Together extends Page {
        final int listPage;
        final int lentPage;

        Together(int number, int till, int listPage, int lentPage) {
            super(TOGETHER_KIND, number, till);
            this.listPage = listPage;
            this.lentPage = lentPage;
        }

        int ownMark() {
            return listPage;
        }
    }

    private static final class Hour extends Page {
        final int togetherPage;

        Hour(int number, int till, int togetherPage) {
            super(HOUR_KIND, number, till);
            this.togetherPage = togetherPage;
        }

        int ownMark() {
            return togetherPage;
        }
    }

    /** What a TEXT says of a MACHINE. */
    private static final class Plan {
        static final int NUMBERS = 1, DAYS = 2, TWO_PLACES = 4;
        final int[] order = new int[ROLES];
        int steps;
        int askedRoles;
        int habits;
        int faultPlace;

        void read(Text text) {
            steps = 0;
            askedRoles = 0;
            habits = 0;
            int i = readSteps(text, skipBlanks(text, 0));
            if (steps > 0) {
                i = skipBlanks(text, readHabits(text, i));
            }
            faultPlace = steps > 0 && i >= text.size ? NONE : i;
        }

        boolean asks(int role) {
            return (askedRoles >> role & 1) != 0;
        }

        boolean does(int habit) {
            return (habits & habit) != 0;
        }

        private static int skipBlanks(Text text, int from) {
            int i = from;
            while (i < text.size && text.bytes[i] == Text.BLANK) {
                i++;
            }
            return i;
        }

        private int readSteps(Text text, int from) {
            int i = from;
            while (i < text.size && steps < ROLES) {
                int role = roleOfLetter(text.bytes[i]);
                if (role == NONE || asks(role)) {
                    break;
                }
                order[steps] = role;
                steps++;
                askedRoles |= 1 << role;
                i++;
            }
            return i;
        }

        private int readHabits(Text text, int from) {
            int i = from;
            while (i < text.size) {
                int habit = habitOfLetter(text.bytes[i]);
                if (habit == 0 || does(habit)) {
                    break;
                }
                habits |= habit;
                i++;
            }
            return i;
        }

        private static int roleOfLetter(int letter) {
            switch (letter) {
                case 'R':
                    return ROOT;
                case 'H':
                    return HOUR;
                case 'T':
                    return TOGETHER;
                case 'L':
                    return LIST;
                case 'N':
                    return LENT;
                default:
                    return NONE;
            }
        }

        private static int habitOfLetter(int letter) {
            switch (letter) {
                case 'o':
                    return NUMBERS;
                case 'd':
                    return DAYS;
                case 'w':
                    return TWO_PLACES;
                default:
                    return 0;
            }
        }
    }

    private static final class Machine {
        final Plan plan = new Plan();
        final int[] held = new int[ROLES];
        final int[] running = new int[FILES];
        boolean begun;

        void begin(Text text, int rootPage) {
            plan.read(text);
            for (int role = 0; role < ROLES; role++) {
                held[role] = NONE;
            }
            held[ROOT] = rootPage;
            for (int file = 0; file < FILES; file++) {
                running[file] = NONE;
            }
            begun = true;
        }
    }

    public SignedPages() {
        for (int r = 0; r < ROWS; r++) {
            rows[r] = new Row();
        }
        for (int t = 0; t < TEXTS; t++) {
            texts[t] = new Text();
        }
        for (int m = 0; m < MACHINES; m++) {
            machines[m] = new Machine();
        }
    }

    // ---- 1 rows, texts, pages

    public int row(int r, int n) {
        if (!isRow(r) || n > PLACES) {
            return BAD;
        }
        if (n < 0) {
            return found(SIZE);
        }
        rows[r].begin(n);
        return n;
    }

    public int lay(int r, int i, int v) {
        int refusal = placeRefusal(r, i);
        if (refusal != 0) {
            return refusal;
        }
        int[] places = rows[r].places;
        latestAsked = places[i];
        places[i] = v;
        return 1;
    }

    public int at(int r, int i) {
        int refusal = placeRefusal(r, i);
        if (refusal != 0) {
            return refusal;
        }
        latestAsked = rows[r].places[i];
        return 1;
    }

    public int tear(int r) {
        if (!isRow(r)) {
            return BAD;
        }
        if (!rows[r].isThere()) {
            return found(NOTHING);
        }
        rows[r].size = -1;
        return 1;
    }

    public int copy(int r, int i, int to, int j, int n) {
        if (!isRow(r) || !isRow(to)) {
            return BAD;
        }
        if (n < 0) {
            return found(SIZE);
        }
        Row from = rows[r];
        Row into = rows[to];
        if (!from.isThere() || !into.isThere()) {
            return found(NOTHING);
        }
        if (!from.hasRun(i, n) || !into.hasRun(j, n)) {
            return found(BEYOND);
        }
        System.arraycopy(from.places, i, into.places, j, n);
        return 1;
    }

    public int mean(int r) {
        if (!isRow(r)) {
            return BAD;
        }
        Row row = rows[r];
        if (!row.isThere()) {
            return found(NOTHING);
        }
        if (row.size == 0) {
            return found(NOUGHT);
        }
        long sum = 0;
        for (int i = 0; i < row.size; i++) {
            sum += row.places[i];
        }
        latestAsked = (int) (sum / row.size);
        return 1;
    }

    public int text(int t, int n) {
        if (!isText(t) || n > PLACES) {
            return BAD;
        }
        if (n < 0) {
            return found(SIZE);
        }
        texts[t].begin(n);
        return n;
    }

    public int put(int t, int i, int v) {
        if (!isText(t)) {
            return BAD;
        }
        Text text = texts[t];
        if (!text.isThere()) {
            return found(NOTHING);
        }
        if (!text.has(i)) {
            return found(BEYOND);
        }
        int was = text.bytes[i];
        text.bytes[i] = (byte) v;
        return was + 1000;
    }

    public int later(int n) {
        if (n < 0 || n > LAST_DAY - day) {
            return BAD;
        }
        day += n;
        return day;
    }

    public int note(int number, int till) {
        if (!isHead(number, till)) {
            return BAD;
        }
        if (pageCount >= PAGES) {
            return FULL;
        }
        return keep(new Page(NOTE_KIND, number, till));
    }

    public int root(int number, int till, int r) {
        if (!isHead(number, till) || !isRow(r)) {
            return BAD;
        }
        if (pageCount >= PAGES) {
            return FULL;
        }
        Row row = rows[r];
        if (!row.isThere()) {
            return found(NOTHING);
        }
        if (row.size != 2 * ROLES) {
            return found(SIZE);
        }
        if (!Root.canBe(row)) {
            return found(UNLIKE);
        }
        return keep(new Root(number, till, row));
    }

    public int list(int number, int till, int r, int lends, boolean lent) {
        if (!isHead(number, till) || !isRow(r) || !isSet(lends) || lent && lends != 0) {
            return BAD;
        }
        if (pageCount >= PAGES) {
            return FULL;
        }
        Row row = rows[r];
        if (!row.isThere()) {
            return found(NOTHING);
        }
        if (row.size % 2 != 0) {
            return found(SIZE);
        }
        if (!Listing.canBe(row)) {
            return found(UNLIKE);
        }
        return keep(lent ? new Lent(number, till, row) : new Listing(LIST_KIND, number, till, row, lends));
    }

    public int together(int number, int till, int list, int lent) {
        if (!isHead(number, till) || !isPage(list) || lent != NONE && !isPage(lent)) {
            return BAD;
        }
        if (pageCount >= PAGES) {
            return FULL;
        }
        if (kindOf(list) != LIST_KIND || lent != NONE && kindOf(lent) != LENT_KIND) {
            return found(UNLIKE);
        }
        return keep(new Together(number, till, list, lent));
    }

    public int hour(int number, int till, int together) {
        if (!isHead(number, till) || !isPage(together)) {
            return BAD;
        }
        if (pageCount >= PAGES) {
            return FULL;
        }
        if (kindOf(together) != TOGETHER_KIND) {
            return found(UNLIKE);
        }
        return keep(new Hour(number, till, together));
    }

    public int sign(int p, int keys) {
        Page page = pageOf(p);
        if (page == null || !isSet(keys)) {
            return BAD;
        }
        page.signers |= keys;
        return Integer.bitCount(page.signers);
    }

    public int told(int p, int what) {
        Page page = pageOf(p);
        if (page == null || what < 0 || what > 3) {
            return BAD;
        }
        latestAsked = factOf(page, what);
        return 1;
    }

    public int mark(int p, int kind) {
        Page page = pageOf(p);
        if (page == null || kind <= NOTE_KIND || kind >= KINDS) {
            return BAD;
        }
        // A LENT page is a LIST, too: asked as one, it tells what a LIST tells.
        if (kind == LIST_KIND && page instanceof Listing listing) {
            return listing.files;
        }
        return page.kind == kind ? page.ownMark() : found(UNLIKE);
    }

    public int good(int p, int root) {
        Page page = pageOf(p);
        if (page == null || !isPage(root)) {
            return BAD;
        }
        Root by = rootOf(root);
        if (by == null) {
            return found(UNLIKE);
        }
        return by.takes(page) ? 1 : 0;
    }

    public int sumOf(int p, int file) {
        if (!isPage(p) || !isFile(file)) {
            return BAD;
        }
        Listing listing = listingOf(p);
        return listing == null ? found(UNLIKE) : listing.sumFor(file);
    }

    public int chain(int p) {
        if (!isPage(p)) {
            return BAD;
        }
        if (rootOf(p) == null) {
            return found(UNLIKE);
        }
        int length = 1;
        int last = p;
        int next = nextRoot(p);
        while (next != NONE && length < PAGES) {
            length++;
            last = next;
            next = nextRoot(last);
        }
        latestAsked = last;
        return length;
    }

    // ---- 2 machines

    public int fault(int t) {
        if (!isText(t)) {
            return BAD;
        }
        if (!texts[t].isThere()) {
            return found(NOTHING);
        }
        triedPlan.read(texts[t]);
        return triedPlan.faultPlace;
    }

    public int machine(int m, int t, int root) {
        if (!isMachine(m)) {
            return BAD;
        }
        int refusal = planRefusal(root, t);
        if (refusal != 0) {
            return refusal;
        }
        machines[m].begin(texts[t], root);
        give(m, root);
        return machines[m].plan.steps;
    }

    public int ask(int m, int r) {
        if (!isMachine(m) || !isRow(r)) {
            return BAD;
        }
        Machine machine = machines[m];
        if (!machine.begun) {
            return found(NOTHING);
        }
        int refusal = copiesRefusal(rows[r]);
        if (refusal != 0) {
            return refusal;
        }
        int end = goThrough(machine.plan, machine.held, rows[r].places);
        for (int role = 0; role < ROLES; role++) {
            give(m, machine.held[role]);
        }
        if (end != NONE) {
            countRefusal(end / 10, end % 10);
        }
        return end;
    }

    public int offer(int m, int file, int sum) {
        if (!isMachine(m) || !isFile(file) || sum < 0 || sum > LAST_SUM) {
            return BAD;
        }
        Machine machine = machines[m];
        if (!machine.begun) {
            return found(NOTHING);
        }
        int why = whyNotRun(machine, file, sum);
        if (why == NONE) {
            machine.running[file] = sum;
        }
        return why;
    }

    public int runs(int m, int file) {
        if (!isMachine(m) || !isFile(file)) {
            return BAD;
        }
        return machines[m].begun ? machines[m].running[file] : found(NOTHING);
    }

    public int took(int m, int which) {
        if (!isMachine(m) || which < 0 || which >= ROLES) {
            return BAD;
        }
        return machines[m].begun ? machines[m].held[which] : found(NOTHING);
    }

    public int walk(int m) {
        if (!isMachine(m)) {
            return BAD;
        }
        Machine machine = machines[m];
        if (!machine.begun) {
            return found(NOTHING);
        }
        int gone = 0;
        int next = nextRoot(machine.held[ROOT]);
        while (next != NONE && gone < PAGES) {
            gone++;
            machine.held[ROOT] = next;
            give(m, next);
            next = nextRoot(next);
        }
        return gone;
    }

    public int whoHas(int p) {
        Page page = pageOf(p);
        return page == null ? BAD : page.holders;
    }

    public int reached(int r) {
        if (!isRow(r)) {
            return BAD;
        }
        int refusal = copiesRefusal(rows[r]);
        if (refusal != 0) {
            return refusal;
        }
        int bits = 0;
        for (int m = 0; m < MACHINES; m++) {
            Machine machine = machines[m];
            System.arraycopy(machine.held, 0, triedHeld, 0, ROLES);
            if (machine.begun && goThrough(machine.plan, triedHeld, rows[r].places) == NONE) {
                bits |= 1 << m;
            }
        }
        return bits;
    }

    public int refused(int step, int why) {
        if (step < 0 || step >= ROLES || !isWhy(why)) {
            return BAD;
        }
        return refusals[refusalPlace(step, why)];
    }

    public int noisy(int why, int noise, int r) {
        if (!isWhy(why) || !isRow(noise) || !isRow(r)) {
            return BAD;
        }
        Row added = rows[noise];
        if (!added.isThere()) {
            return found(NOTHING);
        }
        if (added.size != ROLES) {
            return found(SIZE);
        }
        if (!added.allWithin(-LAST_NOISE, LAST_NOISE)) {
            return found(UNLIKE);
        }
        Row into = rows[r];
        into.size = ROLES;
        int sum = 0;
        for (int step = 0; step < ROLES; step++) {
            // The noise's place is read before it is written: both rows may be one.
            into.places[step] = Math.max(0, refusals[refusalPlace(step, why)] + added.places[step]);
            sum += into.places[step];
        }
        return sum;
    }

    // ---- 3 stolen keys, askings

    public int harm(int which, int root, int t, int keys) {
        if (!isHarm(which) || !isSet(keys)) {
            return BAD;
        }
        int refusal = planRefusal(root, t);
        if (refusal != 0) {
            return refusal;
        }
        return doesHarm(which, rootOf(root), triedPlan, keys) ? 1 : 0;
    }

    public int least(int which, int root, int t) {
        if (!isHarm(which)) {
            return BAD;
        }
        int refusal = planRefusal(root, t);
        if (refusal != 0) {
            return refusal;
        }
        Root by = rootOf(root);
        int sets = 0;
        int best = NONE;
        int bestSize = KEYS + 1;
        for (int set = 0; set < SETS; set++) {
            if (!doesHarm(which, by, triedPlan, set)) {
                continue;
            }
            sets++;
            int size = Integer.bitCount(set);
            if (size < bestSize) {
                best = set;
                bestSize = size;
            }
        }
        latestAsked = best;
        return sets;
    }

    public int share(int which, int root, int t, int n) {
        if (!isHarm(which) || n < 0 || n > KEYS) {
            return BAD;
        }
        int refusal = planRefusal(root, t);
        if (refusal != 0) {
            return refusal;
        }
        Root by = rootOf(root);
        int all = 0;
        int harmful = 0;
        for (int set = 0; set < SETS; set++) {
            if (Integer.bitCount(set) == n) {
                all++;
                harmful += doesHarm(which, by, triedPlan, set) ? 1 : 0;
            }
        }
        tellFraction(harmful, all);
        return harmful;
    }

    public int askings(int root, int there, int c, int r) {
        if (!isPage(root) || !isSet(there) || c < 0 || c > 4 || !isRow(r)) {
            return BAD;
        }
        Row prices = rows[r];
        if (!prices.isThere()) {
            return found(NOTHING);
        }
        if (prices.size != ASKED_ROLES) {
            return found(SIZE);
        }
        Root by = rootOf(root);
        if (by == null || !prices.allWithin(0, LAST_PRICE)) {
            return found(UNLIKE);
        }
        markMade(by, c);
        return cheapest(by, there, c, prices.places);
    }

    // ---- 4 writes

    public int writes(int m, int n, int k) {
        if (!isMachine(m) || !isWrites(n) || k < 0 || k > n) {
            return BAD;
        }
        if (!machines[m].begun) {
            return found(NOTHING);
        }
        return afterWrites(machines[m].plan, n, k);
    }

    public int neither(int m, int n) {
        if (!isMachine(m) || !isWrites(n)) {
            return BAD;
        }
        if (!machines[m].begun) {
            return found(NOTHING);
        }
        int times = 0;
        for (int k = 0; k <= n; k++) {
            times += afterWrites(machines[m].plan, n, k) == 2 ? 1 : 0;
        }
        return times;
    }

    // ---- 5 what is told

    public int asked() {
        return latestAsked;
    }

    public long upper() {
        return latestUpper;
    }

    public long lower() {
        return latestLower;
    }

    public int count(int what) {
        switch (what) {
            case 0:
                return day;
            case 1:
                return pageCount;
            case 2:
                return pagesOf(ROOT_KIND);
            case 3:
                return pagesOf(LIST_KIND) + pagesOf(LENT_KIND);
            case 4:
                return begunMachines();
            case 5:
                return allRefusals();
            case 6:
                return rowsThere();
            case 7:
                return textsThere();
            default:
                return BAD;
        }
    }

    public int finding() {
        return latestFinding;
    }

    public int findings(int f) {
        return f < NOTHING || f > SIZE ? BAD : findingTimes[f];
    }

    public long digest() {
        long h = 17;
        for (int what = 0; what < 8; what++) {
            h = 31 * h + count(what);
        }
        h = digestPages(h);
        h = digestMachines(h);
        for (int i = 0; i < refusals.length; i++) {
            h = 31 * h + refusals[i];
        }
        h = digestRows(h);
        return digestTexts(h);
    }

    // ---- which numbers are numbers of something

    private static boolean isRow(int r) {
        return r >= 0 && r < ROWS;
    }

    private static boolean isText(int t) {
        return t >= 0 && t < TEXTS;
    }

    private static boolean isMachine(int m) {
        return m >= 0 && m < MACHINES;
    }

    private static boolean isFile(int file) {
        return file >= 0 && file < FILES;
    }

    private static boolean isSet(int bits) {
        return bits >= 0 && bits < SETS;
    }

    private static boolean isWhy(int why) {
        return why >= 1 && why <= LAST_WHY;
    }

    private static boolean isHarm(int which) {
        return which >= 0 && which <= LAST_HARM;
    }

    private static boolean isWrites(int n) {
        return n >= 1 && n <= PLACES;
    }

    private static boolean isHead(int number, int till) {
        return number >= 1 && number <= LAST_NUMBER && till >= 0 && till <= LAST_DAY;
    }

    private boolean isPage(int p) {
        return p >= 0 && p < pageCount;
    }

    // ---- refusals that several calls share; 0: not refused

    private int found(int finding) {
        latestFinding = finding;
        if (finding >= 0 && finding < findingTimes.length) {
            findingTimes[finding]++;
        }
        return FINDING;
    }

    private int placeRefusal(int r, int i) {
        if (!isRow(r)) {
            return BAD;
        }
        if (!rows[r].isThere()) {
            return found(NOTHING);
        }
        return rows[r].has(i) ? 0 : found(BEYOND);
    }

    private int copiesRefusal(Row row) {
        if (!row.isThere()) {
            return found(NOTHING);
        }
        if (row.size != ROLES) {
            return found(SIZE);
        }
        for (int role = 0; role < ROLES; role++) {
            int copy = row.places[role];
            if (copy != NONE && !isPage(copy)) {
                return found(UNLIKE);
            }
        }
        return 0;
    }

    /** Leaves what the TEXT says in triedPlan, if nothing is refused. */
    private int planRefusal(int root, int t) {
        if (!isPage(root) || !isText(t)) {
            return BAD;
        }
        if (!texts[t].isThere()) {
            return found(NOTHING);
        }
        if (rootOf(root) == null) {
            return found(UNLIKE);
        }
        triedPlan.read(texts[t]);
        return triedPlan.faultPlace == NONE ? 0 : STATE;
    }

    // ---- pages

    private int keep(Page page) {
        if (pageCount >= PAGES) {
            return FULL;
        }
        pages[pageCount] = page;
        pageCount++;
        return pageCount - 1;
    }

    private Page pageOf(int p) {
        return isPage(p) ? pages[p] : null;
    }

    private Root rootOf(int p) {
        return pageOf(p) instanceof Root root ? root : null;
    }

    private Listing listingOf(int p) {
        return pageOf(p) instanceof Listing listing ? listing : null;
    }

    private int kindOf(int p) {
        Page page = pageOf(p);
        return page == null ? NONE : page.kind;
    }

    private static int factOf(Page page, int what) {
        switch (what) {
            case 0:
                return page.kind;
            case 1:
                return page.number;
            case 2:
                return page.till;
            default:
                return page.signers;
        }
    }

    private int nextRoot(int p) {
        Root from = rootOf(p);
        if (from == null) {
            return NONE;
        }
        for (int q = 0; q < pageCount; q++) {
            Root next = rootOf(q);
            if (next != null && next.number == from.number + 1 && from.takes(next) && next.takes(next)) {
                return q;
            }
        }
        return NONE;
    }

    private void give(int m, int p) {
        Page page = pageOf(p);
        if (page != null) {
            page.holders |= 1 << m;
        }
    }

    // ---- machines

    /** What ask() answers; what is taken is changed in held alone, so that it can be tried on a copy. */
    private int goThrough(Plan plan, int[] held, int[] copies) {
        for (int step = 0; step < plan.steps; step++) {
            int role = plan.order[step];
            int copy = copies[role];
            int why = role == ROOT ? whyNoRoot(plan, held[ROOT], copy) : whyNoPage(plan, held, role, copy);
            if (why != NONE) {
                return 10 * step + why;
            }
            if (copy != NONE) {
                held[role] = copy;
            }
        }
        return NONE;
    }

    private int whyNoRoot(Plan plan, int own, int copy) {
        int shownPage = copy == NONE ? own : copy;
        boolean isOwn = shownPage == own;
        Root has = rootOf(own);
        Root shown = rootOf(shownPage);
        if (has == null || shown == null) {
            return OTHER_KIND;
        }
        if (!isOwn && !(has.takes(shown) && shown.takes(shown))) {
            return SHORT;
        }
        if (isOver(plan, shown)) {
            return OVER;
        }
        return isOwn || shown.number == has.number + 1 ? NONE : OLDER;
    }

    private int whyNoPage(Plan plan, int[] held, int role, int copy) {
        if (copy == NONE) {
            return HELD_BACK;
        }
        Page page = pageOf(copy);
        Root root = rootOf(held[ROOT]);
        if (page == null || root == null || page.kind != KIND_OF_ROLE[role]) {
            return OTHER_KIND;
        }
        if (!root.takes(page)) {
            return SHORT;
        }
        if (isOver(plan, page)) {
            return OVER;
        }
        Page last = pageOf(held[role]);
        if (plan.does(Plan.NUMBERS) && last != null && page.number < last.number) {
            return OLDER;
        }
        return isNamed(plan, held, role, copy) ? NONE : NOT_NAMED;
    }

    private boolean isOver(Plan plan, Page page) {
        return plan.does(Plan.DAYS) && day > page.till;
    }

    private boolean isNamed(Plan plan, int[] held, int role, int copy) {
        if (role == TOGETHER && plan.asks(HOUR)) {
            return pageOf(held[HOUR]) instanceof Hour hour && hour.togetherPage == copy;
        }
        if (role == LIST && plan.asks(TOGETHER)) {
            return pageOf(held[TOGETHER]) instanceof Together together && together.listPage == copy;
        }
        if (role == LENT && plan.asks(TOGETHER)) {
            return pageOf(held[TOGETHER]) instanceof Together together && together.lentPage == copy;
        }
        return true;
    }

    private int whyNotRun(Machine machine, int file, int sum) {
        if (!machine.plan.asks(LIST)) {
            return NONE;
        }
        Listing teller = listingOf(machine.held[LIST]);
        if (teller != null && teller.lendsOut(file) && machine.plan.asks(LENT)) {
            teller = listingOf(machine.held[LENT]);
        }
        if (teller == null || teller.sumFor(file) == NONE) {
            return NOT_TOLD;
        }
        return teller.sumFor(file) == sum ? NONE : OTHER_SUM;
    }

    private static int refusalPlace(int step, int why) {
        return step * LAST_WHY + why - 1;
    }

    private void countRefusal(int step, int why) {
        if (step >= 0 && step < ROLES && isWhy(why)) {
            refusals[refusalPlace(step, why)]++;
        }
    }

    /** 0 the old one RUNS, 1 the new one, 2 NEITHER. */
    private static int afterWrites(Plan plan, int n, int k) {
        if (k == n) {
            return 1;
        }
        return k == 0 || plan.does(Plan.TWO_PLACES) ? 0 : 2;
    }

    // ---- stolen keys, askings

    private static boolean doesHarm(int which, Root root, Plan plan, int set) {
        if (root == null) {
            return false;
        }
        boolean named = thiefNames(root, plan, set);
        if (!plan.asks(LIST) || plan.asks(ROOT) && root.isMade(ROOT, set) || root.isMade(LIST, set) && named) {
            return true;
        }
        boolean heldStill = !plan.does(Plan.DAYS) || !plan.asks(HOUR) || root.isMade(HOUR, set);
        switch (which) {
            case 1:
                return !plan.does(Plan.NUMBERS) && heldStill;
            case 2:
                return plan.asks(LENT) && root.isMade(LENT, set) && named;
            case 3:
                return heldStill;
            default:
                return false;
        }
    }

    /**
     * Whether a list that the thief made passes as the one that is named. An HOUR names only a TOGETHER page,
     * so a machine that asks no T looks at no name of a list, whether it asks H or not.
     */
    private static boolean thiefNames(Root root, Plan plan, int set) {
        if (!plan.asks(TOGETHER)) {
            return true;
        }
        return root.isMade(TOGETHER, set) && (!plan.asks(HOUR) || root.isMade(HOUR, set));
    }

    private void tellFraction(int above, int below) {
        int divisor = commonDivisor(above, below);
        if (divisor != 0) {
            latestUpper = above / divisor;
            latestLower = below / divisor;
        }
    }

    private static int commonDivisor(int a, int b) {
        int greater = a;
        int less = b;
        for (int i = 0; i < 64 && less != 0; i++) {
            int rest = greater % less;
            greater = less;
            less = rest;
        }
        return greater;
    }

    private static int madeAt(int hours, int togethers, int lists) {
        return (hours * SPAN + togethers) * SPAN + lists;
    }

    /**
     * Which counts of HOUR, TOGETHER and LIST keys some set of c keys has at once. Worked out once,
     * since trying all sets anew for each asking would be far dearer.
     */
    private void markMade(Root by, int c) {
        for (int i = 0; i < made.length; i++) {
            made[i] = false;
        }
        for (int set = 0; set < SETS; set++) {
            if (Integer.bitCount(set) == c) {
                int hours = Math.min(MOST_ASKED, Integer.bitCount(set & by.keys[HOUR]));
                int togethers = Math.min(MOST_ASKED, Integer.bitCount(set & by.keys[TOGETHER]));
                int lists = Math.min(MOST_ASKED, Integer.bitCount(set & by.keys[LIST]));
                made[madeAt(hours, togethers, lists)] = true;
            }
        }
    }

    private boolean fewMake(int hours, int togethers, int lists) {
        for (int h = hours; h <= MOST_ASKED; h++) {
            for (int t = togethers; t <= MOST_ASKED; t++) {
                for (int l = lists; l <= MOST_ASKED; l++) {
                    if (made[madeAt(h, t, l)]) {
                        return true;
                    }
                }
            }
        }
        return false;
    }

    private static int mostAsked(Root by, int role, int there) {
        return Math.min(MOST_ASKED, Integer.bitCount(by.keys[role] & there));
    }

    private int cheapest(Root by, int there, int c, int[] prices) {
        // c keys make ROOT as soon as no more than c are asked of it, so the cheapest is one more.
        int roots = c + 1;
        if (roots > mostAsked(by, ROOT, there)) {
            return NONE;
        }
        int mostHours = mostAsked(by, HOUR, there);
        int mostTogethers = mostAsked(by, TOGETHER, there);
        int mostLists = mostAsked(by, LIST, there);
        int best = NONE;
        int bestMany = 0;
        for (int h = 1; h <= mostHours; h++) {
            for (int t = 1; t <= mostTogethers; t++) {
                for (int l = 1; l <= mostLists; l++) {
                    int price = h * prices[HOUR] + t * prices[TOGETHER] + l * prices[LIST];
                    if ((best == NONE || price < best) && !fewMake(h, t, l)) {
                        best = price;
                        bestMany = 100 * h + 10 * t + l;
                    }
                }
            }
        }
        if (best == NONE) {
            return NONE;
        }
        latestAsked = 1000 * roots + bestMany;
        return best + roots * prices[ROOT];
    }

    // ---- counts and the digest

    private int pagesOf(int kind) {
        int n = 0;
        for (int p = 0; p < pageCount; p++) {
            n += kindOf(p) == kind ? 1 : 0;
        }
        return n;
    }

    private int begunMachines() {
        int n = 0;
        for (int m = 0; m < MACHINES; m++) {
            n += machines[m].begun ? 1 : 0;
        }
        return n;
    }

    private int allRefusals() {
        int n = 0;
        for (int i = 0; i < refusals.length; i++) {
            n += refusals[i];
        }
        return n;
    }

    private int rowsThere() {
        int n = 0;
        for (int r = 0; r < ROWS; r++) {
            n += rows[r].isThere() ? 1 : 0;
        }
        return n;
    }

    private int textsThere() {
        int n = 0;
        for (int t = 0; t < TEXTS; t++) {
            n += texts[t].isThere() ? 1 : 0;
        }
        return n;
    }

    private long digestPages(long before) {
        long h = before;
        for (int p = 0; p < pageCount; p++) {
            Page page = pages[p];
            for (int what = 0; what < 4; what++) {
                h = 31 * h + factOf(page, what);
            }
            h = 31 * h + page.holders;
            h = 31 * h + page.ownMark();
        }
        return h;
    }

    private long digestMachines(long before) {
        long h = before;
        for (int m = 0; m < MACHINES; m++) {
            Machine machine = machines[m];
            if (!machine.begun) {
                h = 31 * h - 1;
                continue;
            }
            h = 31 * h + machine.plan.steps;
            for (int role = 0; role < ROLES; role++) {
                h = 31 * h + machine.held[role];
            }
            for (int file = 0; file < FILES; file++) {
                h = 31 * h + machine.running[file];
            }
        }
        return h;
    }

    private long digestRows(long before) {
        long h = before;
        for (int r = 0; r < ROWS; r++) {
            h = 31 * h + rows[r].size;
            for (int i = 0; i < rows[r].size; i++) {
                h = 31 * h + rows[r].places[i];
            }
        }
        return h;
    }

    private long digestTexts(long before) {
        long h = before;
        for (int t = 0; t < TEXTS; t++) {
            h = 31 * h + texts[t].size;
            for (int i = 0; i < texts[t].size; i++) {
                h = 31 * h + texts[t].bytes[i];
            }
        }
        return h;
    }
}
