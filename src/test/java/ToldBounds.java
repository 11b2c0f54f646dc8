/** Boundaries of promises 37 to 45, and of the Terms on writes, refusals and what is told. */
final class ToldBounds {
    /** In told(): a page that is no ROOT, a text with a FAULT, a text and a row that are missing, a row of no PAGES. */
    private static final int NOTE = 5, FAULTY = 1, NO_TEXT = 2, NO_ROW = 4, NO_PAGES = 5;

    private interface Call {
        int of(SignedPages x);
    }

    private ToldBounds() {
    }

    static void all() {
        uses();
        termsOrder();
        termsStateLast();
        termsNone();
        termsChangesNothing();
        termsFindings();
        termsSets();
        termsWrites();
        writes();
        writesBad();
        writesNothing();
        neither();
        neitherBad();
        neitherNothing();
        asked();
        askedBefore();
        askedStays();
        upper();
        lower();
        count();
        countMost();
        countBad();
        finding();
        findings();
        findingsBad();
        digestOfNew();
        digestOfCounts();
        digestOfPages();
        digestOfMachines();
        digestOfRefusals();
        digestOfRows();
    }

    /** Everything that calls can tell is no longer as it was at first, so that a change shows. */
    private static SignedPages told() {
        SignedPages x = Bound.world();
        x.note(3, 3);
        Check.text(x, 0, "L");
        Check.text(x, FAULTY, "LL");
        Bound.begin(x, 0, "LNo");
        x.ask(0, 0);
        x.offer(0, 0, 10);
        Check.row(x, 1, Bound.NONE, Bound.NONE, Bound.NONE, Bound.NONE, Bound.NONE);
        x.ask(0, 1);
        x.row(2, 0);
        Check.row(x, 3, 8, 100, -100);
        Check.row(x, NO_PAGES, 100, 100, 100, 100, 100);
        x.share(0, Bound.ROOT, 0, 3);
        x.row(0, -1);
        x.at(3, 9);
        x.later(7);
        x.told(Bound.LIST, 1);
        return x;
    }

    private static void refused(String what, int answer, Call call) {
        SignedPages x = told();
        Bound.refused(x, what, answer, () -> call.of(x));
    }

    private static void found(String what, int finding, Call call) {
        SignedPages x = told();
        Bound.found(x, what, finding, () -> call.of(x));
    }

    private static void refusedWhenFull(String what, int answer, Call call) {
        SignedPages x = told();
        Bound.addNotes(x);
        Bound.refused(x, what, answer, () -> call.of(x));
    }

    private static void uses() {
        Bound.of(Bound.WHAT_IT_IS, "An object is used for at most 512 calls after it has been made");
        SignedPages x = new SignedPages();
        for (int call = 1; call < 512; call++) {
            Bound.due("call " + call, x.tear(0), SignedPages.FINDING);
        }
        Bound.due("call 512", x.findings(1), 511);
        SignedPages y = new SignedPages();
        for (int call = 1; call < 512; call++) {
            Bound.due("call " + call, y.row(5, 40), 40);
        }
        Bound.due("call 512", y.count(6), 1);
    }

    private static void termsOrder() {
        Bound.of(Bound.TERMS, "Refused is, the first of these that fits, in this order: BAD -1 (a number that is none, or not as told), FULL -2, "
            + "STATE -4 (not now), FINDING -3 (finding() tells which), unless a call says so otherwise.");
        Bound.due("BAD", SignedPages.BAD, -1);
        Bound.due("FULL", SignedPages.FULL, -2);
        Bound.due("FINDING", SignedPages.FINDING, -3);
        Bound.due("STATE", SignedPages.STATE, -4);
        refusedWhenFull("note: BAD ahead of FULL", -1, x -> x.note(0, 0));
        refusedWhenFull("root: BAD ahead of FULL", -1, x -> x.root(1, 0, 6));
        refusedWhenFull("root: BAD ahead of FULL and NOTHING", -1, x -> x.root(0, 0, NO_ROW));
        refusedWhenFull("list: BAD ahead of FULL", -1, x -> x.list(1, 0, 0, 1024, false));
        refusedWhenFull("together: BAD ahead of FULL", -1, x -> x.together(1, 0, 40, Bound.NONE));
        refusedWhenFull("hour: BAD ahead of FULL", -1, x -> x.hour(1, 0, 40));
        refusedWhenFull("root: FULL ahead of NOTHING", -2, x -> x.root(1, 0, NO_ROW));
        refusedWhenFull("root: FULL ahead of SIZE", -2, x -> x.root(1, 0, 0));
        refusedWhenFull("list: FULL ahead of NOTHING", -2, x -> x.list(1, 0, NO_ROW, 0, true));
        refusedWhenFull("list: FULL ahead of SIZE", -2, x -> x.list(1, 0, 0, 0, true));
        refusedWhenFull("together: FULL ahead of UNLIKE", -2, x -> x.together(1, 0, Bound.LENT, Bound.NONE));
        refusedWhenFull("hour: FULL ahead of UNLIKE", -2, x -> x.hour(1, 0, Bound.HOUR));
        refused("row: BAD ahead of SIZE", -1, x -> x.row(6, -1));
        refused("lay: BAD ahead of BEYOND", -1, x -> x.lay(6, -1, 0));
        refused("at: BAD ahead of BEYOND", -1, x -> x.at(-1, 99));
        refused("copy: BAD ahead of SIZE", -1, x -> x.copy(0, 0, 6, 0, -1));
        refused("text: BAD ahead of SIZE", -1, x -> x.text(4, -1));
        refused("put: BAD ahead of BEYOND", -1, x -> x.put(4, -1, 0));
        refused("sumOf: BAD ahead of UNLIKE", -1, x -> x.sumOf(NOTE, 10));
        refused("mark: BAD ahead of UNLIKE", -1, x -> x.mark(NOTE, 6));
        refused("good: BAD ahead of UNLIKE", -1, x -> x.good(6, NOTE));
        refused("ask: BAD ahead of NOTHING", -1, x -> x.ask(4, NO_ROW));
        refused("offer: BAD ahead of NOTHING", -1, x -> x.offer(1, 0, 1000));
        refused("noisy: BAD ahead of NOTHING", -1, x -> x.noisy(7, NO_ROW, 0));
        refused("askings: BAD ahead of NOTHING", -1, x -> x.askings(Bound.ROOT, 0, 5, NO_ROW));
        refused("writes: BAD ahead of NOTHING", -1, x -> x.writes(1, 0, 0));
        refused("neither: BAD ahead of NOTHING", -1, x -> x.neither(1, 41));
    }

    private static void termsStateLast() {
        Bound.of(Bound.TERMS, "unless a call says so otherwise");
        refused("machine: BAD ahead of STATE", -1, x -> x.machine(4, FAULTY, Bound.ROOT));
        refused("harm: BAD ahead of STATE", -1, x -> x.harm(4, Bound.ROOT, FAULTY, 0));
        refused("least: BAD ahead of STATE", -1, x -> x.least(4, Bound.ROOT, FAULTY));
        refused("share: BAD ahead of STATE", -1, x -> x.share(0, Bound.ROOT, FAULTY, 11));
        found("machine: UNLIKE ahead of STATE", Bound.UNLIKE, x -> x.machine(0, FAULTY, NOTE));
        found("harm: UNLIKE ahead of STATE", Bound.UNLIKE, x -> x.harm(0, NOTE, FAULTY, 0));
        found("least: UNLIKE ahead of STATE", Bound.UNLIKE, x -> x.least(0, NOTE, FAULTY));
        found("share: UNLIKE ahead of STATE", Bound.UNLIKE, x -> x.share(0, NOTE, FAULTY, 0));
        refused("machine: STATE", -4, x -> x.machine(0, FAULTY, Bound.ROOT));
        refused("harm: STATE", -4, x -> x.harm(0, Bound.ROOT, FAULTY, 0));
        refused("least: STATE", -4, x -> x.least(0, Bound.ROOT, FAULTY));
        refused("share: STATE", -4, x -> x.share(0, Bound.ROOT, FAULTY, 0));
    }

    private static void termsNone() {
        Bound.of(Bound.TERMS, "NONE -9.");
        Bound.due("NONE", SignedPages.NONE, -9);
        SignedPages x = told();
        Bound.due("no FAULT", x.fault(0), -9);
        Bound.due("a FILE that is not told", x.sumOf(Bound.LIST, 9), -9);
        Bound.due("it took all", x.ask(0, 0), -9);
        Bound.due("it RUNS", x.offer(0, 0, 10), -9);
        Bound.due("runs none", x.runs(0, 9), -9);
        Bound.due("took none", x.took(0, 1), -9);
        Bound.due("no askings", x.askings(Bound.ROOT, 0, 0, priceRow(x)), -9);
    }

    private static int priceRow(SignedPages x) {
        return x.row(4, 4);
    }

    private static void termsChangesNothing() {
        Bound.of(Bound.TERMS, "What is refused changes nothing but finding(), findings().");
        refused("row", -1, x -> x.row(0, 41));
        found("row", Bound.SIZE, x -> x.row(0, -1));
        refused("lay", -1, x -> x.lay(6, 0, 5));
        found("lay", Bound.NOTHING, x -> x.lay(NO_ROW, 0, 5));
        found("lay", Bound.BEYOND, x -> x.lay(0, 5, 5));
        refused("at", -1, x -> x.at(6, 0));
        found("at", Bound.NOTHING, x -> x.at(NO_ROW, 0));
        found("at", Bound.BEYOND, x -> x.at(0, 5));
        refused("tear", -1, x -> x.tear(6));
        found("tear", Bound.NOTHING, x -> x.tear(NO_ROW));
        refused("copy", -1, x -> x.copy(0, 0, 6, 0, 2));
        found("copy", Bound.SIZE, x -> x.copy(0, 0, 1, 0, -1));
        found("copy", Bound.NOTHING, x -> x.copy(0, 0, NO_ROW, 0, 2));
        found("copy", Bound.BEYOND, x -> x.copy(0, 0, 1, 3, 3));
        refused("mean", -1, x -> x.mean(6));
        found("mean", Bound.NOTHING, x -> x.mean(NO_ROW));
        found("mean", Bound.NOUGHT, x -> x.mean(2));
        refused("text", -1, x -> x.text(0, 41));
        found("text", Bound.SIZE, x -> x.text(0, -1));
        refused("put", -1, x -> x.put(4, 0, 5));
        found("put", Bound.NOTHING, x -> x.put(NO_TEXT, 0, 5));
        found("put", Bound.BEYOND, x -> x.put(0, 1, 5));
        refused("later", -1, x -> x.later(993));
        refused("note", -1, x -> x.note(100, 0));
        refusedWhenFull("note", -2, x -> x.note(1, 0));
        refused("root", -1, x -> x.root(1, 1000, 0));
        found("root", Bound.NOTHING, x -> x.root(1, 0, NO_ROW));
        found("root", Bound.SIZE, x -> x.root(1, 0, 0));
        refused("list", -1, x -> x.list(1, 0, 2, 1, true));
        found("list", Bound.SIZE, x -> x.list(1, 0, 3, 0, false));
        refused("together", -1, x -> x.together(1, 0, Bound.LIST, -1));
        found("together", Bound.UNLIKE, x -> x.together(1, 0, Bound.LENT, Bound.NONE));
        refused("hour", -1, x -> x.hour(1, 0, -1));
        found("hour", Bound.UNLIKE, x -> x.hour(1, 0, Bound.LIST));
        refused("sign", -1, x -> x.sign(Bound.LIST, 1024));
        refused("told", -1, x -> x.told(Bound.LIST, 4));
        refused("mark", -1, x -> x.mark(Bound.LIST, 0));
        found("mark", Bound.UNLIKE, x -> x.mark(Bound.LIST, 3));
        refused("good", -1, x -> x.good(Bound.LIST, 6));
        found("good", Bound.UNLIKE, x -> x.good(Bound.LIST, NOTE));
        refused("sumOf", -1, x -> x.sumOf(Bound.LIST, 10));
        found("sumOf", Bound.UNLIKE, x -> x.sumOf(NOTE, 0));
        refused("chain", -1, x -> x.chain(6));
        found("chain", Bound.UNLIKE, x -> x.chain(NOTE));
        machinesChangeNothing();
    }

    private static void machinesChangeNothing() {
        refused("fault", -1, x -> x.fault(4));
        found("fault", Bound.NOTHING, x -> x.fault(NO_TEXT));
        refused("machine", -1, x -> x.machine(0, 0, 6));
        found("machine", Bound.NOTHING, x -> x.machine(0, NO_TEXT, Bound.ROOT));
        found("machine", Bound.UNLIKE, x -> x.machine(0, 0, NOTE));
        refused("machine", -4, x -> x.machine(0, FAULTY, Bound.ROOT));
        refused("ask", -1, x -> x.ask(0, 6));
        found("ask", Bound.NOTHING, x -> x.ask(0, NO_ROW));
        found("ask", Bound.SIZE, x -> x.ask(0, 3));
        found("ask", Bound.UNLIKE, x -> x.ask(0, NO_PAGES));
        refused("offer", -1, x -> x.offer(0, 0, -1));
        found("offer", Bound.NOTHING, x -> x.offer(1, 0, 10));
        refused("runs", -1, x -> x.runs(0, 10));
        found("runs", Bound.NOTHING, x -> x.runs(1, 0));
        refused("took", -1, x -> x.took(0, 5));
        found("took", Bound.NOTHING, x -> x.took(1, 0));
        refused("walk", -1, x -> x.walk(4));
        found("walk", Bound.NOTHING, x -> x.walk(1));
        refused("whoHas", -1, x -> x.whoHas(6));
        refused("reached", -1, x -> x.reached(6));
        found("reached", Bound.NOTHING, x -> x.reached(NO_ROW));
        found("reached", Bound.SIZE, x -> x.reached(3));
        found("reached", Bound.UNLIKE, x -> x.reached(NO_PAGES));
        refused("refused", -1, x -> x.refused(5, 1));
        refused("noisy", -1, x -> x.noisy(1, 1, 6));
        found("noisy", Bound.NOTHING, x -> x.noisy(1, NO_ROW, 0));
        found("noisy", Bound.SIZE, x -> x.noisy(1, 3, 0));
        found("noisy", Bound.UNLIKE, x -> x.noisy(1, NO_PAGES, 0));
        refused("harm", -1, x -> x.harm(0, Bound.ROOT, 0, 1024));
        found("harm", Bound.NOTHING, x -> x.harm(0, Bound.ROOT, NO_TEXT, 0));
        found("harm", Bound.UNLIKE, x -> x.harm(0, NOTE, 0, 0));
        refused("least", -1, x -> x.least(0, 6, 0));
        found("least", Bound.NOTHING, x -> x.least(0, Bound.ROOT, NO_TEXT));
        found("least", Bound.UNLIKE, x -> x.least(0, NOTE, 0));
        refused("share", -1, x -> x.share(0, Bound.ROOT, 0, -1));
        found("share", Bound.NOTHING, x -> x.share(0, Bound.ROOT, NO_TEXT, 4));
        found("share", Bound.UNLIKE, x -> x.share(0, NOTE, 0, 4));
        refused("askings", -1, x -> x.askings(Bound.ROOT, 1024, 0, 0));
        found("askings", Bound.NOTHING, x -> x.askings(Bound.ROOT, 1, 0, NO_ROW));
        found("askings", Bound.SIZE, x -> x.askings(Bound.ROOT, 1, 0, 3));
        refused("writes", -1, x -> x.writes(0, 1, 2));
        found("writes", Bound.NOTHING, x -> x.writes(1, 1, 1));
        refused("neither", -1, x -> x.neither(0, 0));
        found("neither", Bound.NOTHING, x -> x.neither(1, 1));
        refused("count", -1, x -> x.count(8));
        refused("findings", -1, x -> x.findings(6));
    }

    private static void termsFindings() {
        Bound.of(Bound.TERMS, "FINDINGS: 1 NOTHING (a ROW, a TEXT, a MACHINE that is missing), 2 BEYOND (a place that there is not), "
            + "3 UNLIKE (a PAGE of another KIND; a number that is none), 4 NOUGHT (shared among none), "
            + "5 SIZE (fewer than none; not as many as due).");
        found("a ROW that is missing", 1, x -> x.at(NO_ROW, 0));
        found("a TEXT that is missing", 1, x -> x.fault(NO_TEXT));
        found("a MACHINE that is missing", 1, x -> x.walk(3));
        found("a place that there is not", 2, x -> x.at(3, 3));
        found("a byte that there is not", 2, x -> x.put(0, 1, 0));
        found("a PAGE of another KIND", 3, x -> x.chain(NOTE));
        found("a number that is none", 3, x -> x.ask(0, NO_PAGES));
        found("shared among none", 4, x -> x.mean(2));
        found("fewer than none", 5, x -> x.row(0, -1));
        found("not as many as due", 5, x -> x.root(1, 0, 0));
    }

    private static void termsSets() {
        Bound.of(Bound.TERMS, "Sets are told by bits.");
        SignedPages x = told();
        for (int key = 0; key <= 9; key++) {
            x.sign(NOTE, 1 << key);
            x.told(NOTE, 3);
            Bound.due("signed by keys 0 to " + key, x.asked(), (2 << key) - 1);
        }
        Bound.begin(x, 3, "L");
        Bound.due("machines 0 and 3 have the ROOT", x.whoHas(Bound.ROOT), 9);
        Bound.due("machines 0 and 3 are reached", x.reached(0), 9);
        x.least(0, Bound.ROOT, 0);
        Bound.due("the least set is key 0", x.asked(), 1);
    }

    private static int due(boolean two, int n, int k) {
        if (k == n) {
            return 1;
        }
        return two || k == 0 ? 0 : 2;
    }

    private static void termsWrites() {
        Bound.of(Bound.TERMS, "WRITES: n places are written one behind the other; power is lost behind k of them: "
            + "with two places it RUNS the old one, if k is below n, else the new one; "
            + "with one: the old one, if k is 0, the new one, if k is n, else NEITHER.");
        for (boolean two : new boolean[] {false, true}) {
            for (int n : new int[] {1, 2, 3, 40}) {
                SignedPages x = Bound.world();
                Bound.begin(x, 0, two ? "Lw" : "Lod");
                for (int k = 0; k <= n; k++) {
                    Bound.due((two ? "two places, " : "one, ") + k + " of " + n, x.writes(0, n, k), due(two, n, k));
                }
            }
        }
    }

    private static void writes() {
        Bound.of(37, "What RUNS behind k of n WRITES (0 .. n; n 1 .. 40) of a MACHINE: 0 the old one, 1 the new one, 2 NEITHER.");
        SignedPages x = Bound.world();
        Bound.begin(x, 0, "L");
        Bound.begin(x, 3, "Lw");
        int[][] calls = {{1, 0}, {1, 1}, {2, 1}, {40, 0}, {40, 1}, {40, 39}, {40, 40}};
        int[] one = {0, 1, 2, 0, 2, 2, 1};
        int[] two = {0, 1, 0, 0, 0, 0, 1};
        long before = x.digest();
        for (int i = 0; i < calls.length; i++) {
            String what = calls[i][1] + " of " + calls[i][0];
            Bound.due("one place, " + what, x.writes(0, calls[i][0], calls[i][1]), one[i]);
            Bound.due("two places, " + what, x.writes(3, calls[i][0], calls[i][1]), two[i]);
        }
        Bound.due("nothing is changed", x.digest(), before);
    }

    private static void writesBad() {
        Bound.of(37, "BAD");
        SignedPages x = Bound.world();
        Bound.begin(x, 0, "L");
        for (int m : Bound.outside(0, 3)) {
            Bound.refused(x, "machine " + m, Bound.BAD, () -> x.writes(m, 1, 0));
        }
        for (int n : Bound.outside(1, 40)) {
            Bound.refused(x, "n " + n, Bound.BAD, () -> x.writes(0, n, 0));
        }
        int[][] calls = {{1, 2}, {1, -1}, {40, 41}, {40, -1}, {40, Bound.MIN}, {40, Bound.MAX}, {41, 41}, {0, 0}};
        for (int[] c : calls) {
            Bound.refused(x, c[1] + " of " + c[0], Bound.BAD, () -> x.writes(0, c[0], c[1]));
        }
        Bound.refused(x, "k ahead of NOTHING", Bound.BAD, () -> x.writes(1, 1, 2));
    }

    private static void writesNothing() {
        Bound.of(37, "NOTHING.");
        SignedPages x = Bound.world();
        for (int m = 0; m <= 3; m++) {
            int machine = m;
            Bound.found(x, "machine " + m, Bound.NOTHING, () -> x.writes(machine, 40, 40));
        }
    }

    private static void neither() {
        Bound.of(38, "At how many k of 0 to n NEITHER RUNS.");
        SignedPages x = Bound.world();
        Bound.begin(x, 0, "L");
        Bound.begin(x, 3, "Lw");
        for (int n = 1; n <= 40; n++) {
            Bound.due("one place, n " + n, x.neither(0, n), n - 1);
            Bound.due("two places, n " + n, x.neither(3, n), 0);
        }
    }

    private static void neitherBad() {
        Bound.of(38, "BAD");
        SignedPages x = Bound.world();
        Bound.begin(x, 0, "L");
        for (int m : Bound.outside(0, 3)) {
            Bound.refused(x, "machine " + m, Bound.BAD, () -> x.neither(m, 1));
        }
        for (int n : Bound.outside(1, 40)) {
            Bound.refused(x, "n " + n, Bound.BAD, () -> x.neither(0, n));
            Bound.refused(x, "n " + n + ", ahead of NOTHING", Bound.BAD, () -> x.neither(1, n));
        }
    }

    private static void neitherNothing() {
        Bound.of(38, "NOTHING.");
        SignedPages x = Bound.world();
        for (int m = 0; m <= 3; m++) {
            int machine = m;
            Bound.found(x, "machine " + m, Bound.NOTHING, () -> x.neither(machine, 1));
        }
    }

    private static void asked() {
        Bound.of(39, "What the latest lay(), at(), mean(), told(), chain(), least(), askings() that was not refused (nor NONE) told; 0 before.");
        SignedPages x = told();
        x.lay(3, 0, 9);
        Bound.due("lay", x.asked(), 8);
        x.at(3, 2);
        Bound.due("at", x.asked(), -100);
        x.mean(3);
        Bound.due("mean", x.asked(), 3);
        x.told(NOTE, 0);
        Bound.due("told, a 0", x.asked(), 0);
        x.told(Bound.LIST, 2);
        Bound.due("told", x.asked(), 500);
        x.chain(Bound.ROOT);
        Bound.due("chain", x.asked(), Bound.ROOT);
        x.least(0, Bound.ROOT, 0);
        Bound.due("least", x.asked(), 1);
        x.row(4, 4);
        x.askings(Bound.ROOT, 1, 0, 4);
        Bound.due("askings", x.asked(), 1111);
        x.lay(4, 0, Bound.NONE);
        x.at(4, 0);
        Bound.due("a place that is NONE is told, too", x.asked(), Bound.NONE);
    }

    private static void askedBefore() {
        Bound.of(39, "0 before.");
        SignedPages x = new SignedPages();
        Bound.due("new", x.asked(), 0);
        x.row(0, 5);
        x.text(0, 5);
        x.later(5);
        x.note(7, 7);
        x.sign(0, 7);
        x.at(0, 5);
        x.told(0, 4);
        x.mean(1);
        x.count(0);
        x.digest();
        Bound.due("calls that tell nothing by it, or were refused", x.asked(), 0);
    }

    private static void askedStays() {
        Bound.of(39, "that was not refused (nor NONE)");
        SignedPages x = told();
        x.row(4, 4);
        x.told(Bound.LIST, 1);
        Bound.due("told", x.asked(), 5);
        Bound.due("askings: NONE", x.askings(Bound.ROOT, 0, 0, 4), Bound.NONE);
        Bound.due("behind askings: NONE", x.asked(), 5);
        Call[] calls = {y -> y.lay(6, 0, 0), y -> y.lay(3, 3, 0), y -> y.at(3, -1), y -> y.mean(2), y -> y.told(6, 0), y -> y.chain(NOTE),
            y -> y.least(0, Bound.ROOT, FAULTY), y -> y.least(4, Bound.ROOT, 0), y -> y.askings(Bound.ROOT, 1, 0, 3)};
        for (int i = 0; i < calls.length; i++) {
            Bound.due("call " + i + " is refused", calls[i].of(x) < 0 ? 1 : 0, 1);
            Bound.due("behind refused call " + i, x.asked(), 5);
        }
    }

    private static void upper() {
        Bound.of(40, "The upper number of the fraction that was told last; 0 before.");
        SignedPages x = new SignedPages();
        Bound.due("before", x.upper(), 0);
        dueFractions(x, true);
    }

    private static void lower() {
        Bound.of(41, "Its lower number; 1 before.");
        SignedPages x = new SignedPages();
        Bound.due("before", x.lower(), 1);
        dueFractions(x, false);
    }

    private static void dueFractions(SignedPages x, boolean upper) {
        Check.root(x, 1, 1, 0, Bound.ONE_EACH);
        Check.text(x, 0, "L");
        Check.text(x, 1, "LL");
        x.mean(5);
        Bound.due("a mean is none", upper ? x.upper() : x.lower(), upper ? 0 : 1);
        int[][] fractions = {{9, 9, 10}, {3, 3, 10}, {0, 0, 1}, {5, 1, 2}, {10, 1, 1}};
        for (int[] one : fractions) {
            x.share(0, 0, 0, one[0]);
            Bound.due("share of " + one[0], upper ? x.upper() : x.lower(), upper ? one[1] : one[2]);
        }
        x.share(0, 0, 0, 9);
        x.share(0, 0, 0, 11);
        x.share(0, 0, 1, 5);
        x.share(0, 0, 2, 5);
        Bound.due("behind refused ones", upper ? x.upper() : x.lower(), upper ? 9 : 10);
    }

    private static void count() {
        Bound.of(42, "0 TODAY, 1 PAGES, 2 ROOTS, 3 LISTS (LENT, too), 4 MACHINES, 5 all REFUSALS, 6 ROWS, 7 TEXTS that are there.");
        SignedPages x = told();
        int[] counts = {7, 6, 1, 2, 1, 1, 5, 3};
        for (int what = 0; what <= 7; what++) {
            Bound.due("count(" + what + ")", x.count(what), counts[what]);
        }
        for (int r : new int[] {0, 1, 2, 3, 5}) {
            x.tear(r);
        }
        Bound.due("no rows any more", x.count(6), 0);
        x.text(0, 0);
        Bound.due("an empty text is there", x.count(7), 3);
    }

    private static void countMost() {
        Bound.of(42, "7 TEXTS that are there");
        SignedPages x = Bound.world();
        x.later(999);
        for (int r = 0; r <= 5; r++) {
            x.row(r, 0);
        }
        for (int t = 0; t <= 3; t++) {
            x.text(t, 0);
        }
        for (int m = 0; m <= 3; m++) {
            Bound.begin(x, m, "L");
        }
        Check.row(x, 5, Bound.KEY_0);
        for (int p = 5; p < 38; p++) {
            x.root(1, 1, 5);
        }
        x.list(1, 1, 0, 0, true);
        x.list(1, 1, 0, 0, true);
        int[] counts = {999, 40, 34, 4, 4, 0, 6, 4};
        for (int what = 0; what <= 7; what++) {
            Bound.due("at most count(" + what + ")", x.count(what), counts[what]);
        }
        for (boolean lent : new boolean[] {false, true}) {
            SignedPages y = new SignedPages();
            y.row(0, 0);
            y.list(1, 1, 0, 0, lent);
            Bound.due(lent ? "a LENT one alone" : "a LIST alone", y.count(3), 1);
        }
    }

    private static void countBad() {
        Bound.of(42, "BAD.");
        SignedPages x = told();
        for (int what : Bound.outside(0, 7)) {
            Bound.refused(x, "count(" + what + ")", Bound.BAD, () -> x.count(what));
        }
    }

    private static void finding() {
        Bound.of(43, "The latest FINDING (0 before any).");
        SignedPages x = new SignedPages();
        Bound.due("before any", x.finding(), 0);
        x.row(6, 0);
        x.row(0, 41);
        x.findings(0);
        Bound.due("BAD is none", x.finding(), 0);
        Bound.addNotes(x);
        x.note(1, 1);
        Bound.due("FULL is none", x.finding(), 0);
        x.at(0, 0);
        Bound.due("NOTHING", x.finding(), 1);
        x.row(0, 0);
        x.at(0, 0);
        Bound.due("BEYOND", x.finding(), 2);
        x.chain(0);
        Bound.due("UNLIKE", x.finding(), 3);
        x.mean(0);
        Bound.due("NOUGHT", x.finding(), 4);
        x.row(0, -1);
        Bound.due("SIZE", x.finding(), 5);
        x.row(0, 3);
        x.at(0, 0);
        Bound.due("it stays", x.finding(), 5);
        x.tear(1);
        Bound.due("NOTHING again", x.finding(), 1);
        SignedPages y = Bound.world();
        Check.text(y, 0, "LL");
        y.machine(0, 0, Bound.ROOT);
        Bound.due("STATE is none", y.finding(), 0);
    }

    private static void findings() {
        Bound.of(44, "How often a FINDING (1 .. 5) was answered.");
        SignedPages x = new SignedPages();
        x.note(1, 1);
        for (int f = 1; f <= 5; f++) {
            Bound.due("at first findings(" + f + ")", x.findings(f), 0);
        }
        for (int i = 0; i < 2; i++) {
            x.at(1, 0);
        }
        x.row(0, 0);
        for (int i = 0; i < 3; i++) {
            x.at(0, 0);
        }
        for (int i = 0; i < 4; i++) {
            x.chain(0);
        }
        for (int i = 0; i < 5; i++) {
            x.mean(0);
        }
        for (int i = 0; i < 6; i++) {
            x.row(0, -1);
        }
        x.row(0, 41);
        for (int f = 1; f <= 5; f++) {
            Bound.due("findings(" + f + ")", x.findings(f), f + 1);
            Bound.due("findings(" + f + ") again", x.findings(f), f + 1);
        }
    }

    private static void findingsBad() {
        Bound.of(44, "BAD.");
        SignedPages x = told();
        for (int f : Bound.outside(1, 5)) {
            Bound.refused(x, "findings(" + f + ")", Bound.BAD, () -> x.findings(f));
        }
    }

    private static long more(long h, long... values) {
        long sum = h;
        for (long v : values) {
            sum = 31 * sum + v;
        }
        return sum;
    }

    private static long times(long h, int n, long value) {
        long sum = h;
        for (int i = 0; i < n; i++) {
            sum = more(sum, value);
        }
        return sum;
    }

    private static void digestOfNew() {
        Bound.of(45, "h = 17; then h = 31 h + v for each v: count() 0 to 7");
        long h = times(17, 8, 0);
        h = times(h, 4, -1);
        h = times(h, 30, 0);
        h = times(h, 6, -1);
        h = times(h, 4, -1);
        Bound.due("a new object", new SignedPages().digest(), h);
    }

    private static void digestOfCounts() {
        Bound.of(45, "count() 0 to 7");
        SignedPages x = new SignedPages();
        x.later(999);
        x.row(5, 0);
        x.text(3, 0);
        long h = more(17, 999, 0, 0, 0, 0, 0, 1, 1);
        h = times(h, 4, -1);
        h = times(h, 30, 0);
        h = more(h, -1, -1, -1, -1, -1, 0);
        h = more(h, -1, -1, -1, 0);
        Bound.due("a day, an empty row and an empty text", x.digest(), h);
        x.at(0, 0);
        x.mean(5);
        Bound.due("findings are not in it", x.digest(), h);
    }

    private static void digestOfPages() {
        Bound.of(45, "of each PAGE told() 0 to 3, whoHas(), what mark() tells by its own KIND (KIND 0: 0)");
        SignedPages x = new SignedPages();
        x.note(1, 2);
        Check.root(x, 3, 4, 1023, Bound.ONE_EACH);
        Check.list(x, 5, 6, 7, 0, false, 4, 44, 3, 33, 2, 22);
        Check.list(x, 99, 999, 9, 0, true, 4, 44, 3, 333, 2, 22);
        Check.signed(x, x.together(10, 11, 2, 3), 12);
        Check.signed(x, x.hour(13, 14, 4), 15);
        Check.text(x, 0, "R");
        x.machine(1, 0, 1);
        x.machine(3, 0, 1);
        x.tear(5);
        long h = more(17, 0, 6, 1, 2, 2, 0, 0, 1);
        h = more(h, 0, 1, 2, 0, 0, 0);
        h = more(h, 1, 3, 4, 1023, 10, 5);
        h = more(h, 2, 5, 6, 7, 0, 3);
        h = more(h, 3, 99, 999, 9, 0, 333);
        h = more(h, 4, 10, 11, 12, 0, 2);
        h = more(h, 5, 13, 14, 15, 0, 4);
        h = more(h, -1, 1, 1, -9, -9, -9, -9);
        h = times(h, 10, -9);
        h = more(h, -1, 1, 1, -9, -9, -9, -9);
        h = times(h, 10, -9);
        h = times(h, 30, 0);
        h = times(h, 6, -1);
        h = more(h, 1, 'R', -1, -1, -1);
        Bound.due("a page of each KIND", x.digest(), h);
    }

    private static void digestOfMachines() {
        Bound.of(45, "of each MACHINE (-1 once: missing) how many steps, took() 0 to 4, runs() 0 to 9");
        SignedPages x = Bound.world();
        Bound.begin(x, 0, " RHTLNodw");
        x.ask(0, 0);
        x.offer(0, 0, 10);
        Bound.begin(x, 3, "T");
        x.offer(3, 9, 999);
        x.offer(3, 1, 0);
        x.tear(0);
        x.tear(5);
        x.text(3, 0);
        long h = more(17, 0, 5, 1, 2, 2, 0, 0, 1);
        h = more(h, 1, 1, 500, 1, 9, 5);
        h = more(h, 2, 5, 500, 1, 1, 2);
        h = more(h, 3, 5, 500, 1, 1, 11);
        h = more(h, 4, 5, 500, 1, 1, 1);
        h = more(h, 5, 5, 500, 1, 1, 3);
        h = more(h, 5, 0, 4, 3, 1, 2, 10);
        h = times(h, 9, -9);
        h = more(h, -1, -1);
        h = more(h, 1, 0, -9, -9, -9, -9, -9, 0);
        h = times(h, 7, -9);
        h = more(h, 999);
        h = times(h, 30, 0);
        h = times(h, 6, -1);
        h = more(h, -1, -1, -1, 0);
        Bound.due("the first and the last machine", x.digest(), h);
    }

    private static void digestOfRefusals() {
        Bound.of(45, "refused() by steps, then WHY");
        SignedPages x = new SignedPages();
        Check.root(x, 1, 500, 1, Bound.KEY_0);
        Check.text(x, 0, "RHTLN");
        x.machine(0, 0, 0);
        Check.row(x, 0, Bound.NONE, Bound.NONE, Bound.NONE, Bound.NONE, Bound.NONE);
        x.ask(0, 0);
        x.ask(0, 0);
        x.lay(0, 1, 0);
        x.ask(0, 0);
        Check.text(x, 0, "N");
        x.machine(0, 0, 0);
        x.ask(0, 0);
        x.tear(0);
        x.tear(5);
        x.text(0, 0);
        long h = more(17, 0, 1, 1, 0, 1, 4, 0, 1);
        h = more(h, 1, 1, 500, 1, 1, 5);
        h = more(h, 1, 0, -9, -9, -9, -9);
        h = times(h, 10, -9);
        h = more(h, -1, -1, -1);
        h = more(h, 1, 0, 0, 0, 0, 0);
        h = more(h, 2, 1, 0, 0, 0, 0);
        h = times(h, 18, 0);
        h = times(h, 6, -1);
        h = more(h, 0, -1, -1, -1);
        Bound.due("refusals of two steps", x.digest(), h);
    }

    private static void digestOfRows() {
        Bound.of(45, "of each ROW its size (-1: missing) and places, of each TEXT likewise.");
        SignedPages x = new SignedPages();
        Check.row(x, 0, Bound.MAX, Bound.MIN, -1);
        x.row(1, 0);
        x.row(5, 40);
        x.lay(5, 39, 7);
        x.row(2, 9);
        x.tear(2);
        Check.text(x, 0, "\u0000\u007f\u0080\u00ff");
        x.text(2, 0);
        x.text(3, 40);
        long h = more(17, 0, 0, 0, 0, 0, 0, 3, 3);
        h = times(h, 4, -1);
        h = times(h, 30, 0);
        h = more(h, 3, Bound.MAX, Bound.MIN, -1);
        h = more(h, 0);
        h = times(h, 3, -1);
        h = more(h, 40);
        h = times(h, 39, 0);
        h = more(h, 7);
        h = more(h, 4, 0, 127, -128, -1);
        h = more(h, -1);
        h = more(h, 0);
        h = more(h, 40);
        h = times(h, 40, 32);
        Bound.due("rows and texts, missing, empty and full", x.digest(), h);
    }
}
