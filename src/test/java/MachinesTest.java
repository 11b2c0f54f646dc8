/** Promises 22 to 32, 37 and 38: texts of machines, asking, offering, walking, noise, writes. */
public final class MachinesTest {
    private static final int BAD = SignedPages.BAD, STATE = SignedPages.STATE, NONE = SignedPages.NONE;
    private static final int NOTHING = 1, UNLIKE = 3, SIZE = 5;
    private static final int ROOT = 0, LIST = 1, LENT = 2, TOGETHER = 3, HOUR = 4;

    private MachinesTest() {
    }

    public static void main(String[] args) {
        fault();
        machine();
        askRefused();
        whyInOrder();
        rootSteps();
        names();
        numbers();
        keepsWhatItTookAhead();
        offer();
        walk();
        reached();
        noisy();
        writes();
        Check.end();
    }

    /** Five pages, all signed by key 0, that every machine takes: ROOT, LIST, LENT, TOGETHER, HOUR; row 0 has them. */
    private static SignedPages world() {
        SignedPages x = new SignedPages();
        Check.root(x, 1, 500, 1, 1, 1, 1, 1, 1, 1, 1, 1, 1, 1);
        Check.list(x, 5, 500, 1, 6, false, 0, 10, 2, 12);
        Check.list(x, 5, 500, 1, 0, true, 1, 11);
        Check.signed(x, x.together(5, 500, LIST, LENT), 1);
        Check.signed(x, x.hour(5, 500, TOGETHER), 1);
        Check.row(x, 0, ROOT, HOUR, TOGETHER, LIST, LENT);
        return x;
    }

    private static void begin(SignedPages x, int m, String letters) {
        Check.text(x, 3, letters);
        Check.due("machine " + letters, x.machine(m, 3, ROOT), letters.replaceAll("[^A-Z]", "").length());
    }

    private static void fault() {
        SignedPages x = new SignedPages();
        Check.dueFinding(x, "fault: missing", 0, x.fault(0), NOTHING);
        Check.due("fault: text", x.fault(4), BAD);
        Check.due("fault: text below", x.fault(-1), BAD);
        String[] texts = {"", " ", "    ", "R", "  RH ", "o", " o", "RoR", "Ro o", "RHTLNodw", "NLTHRwdo", "RR",
            "RHTLNR", "Rdd", "Rowdo", "r", "Ra", "R\u0000", "R\u0000 ", "R H", "Ro  ", "  x", "RX", "O", "Rod  w", "ow"};
        int[] faults = {0, 1, 4, NONE, NONE, 0, 1, 2, 3, NONE, NONE, 1,
            5, 2, 4, 0, 1, 1, 1, 2, NONE, 2, 1, 0, 5, 0};
        for (int i = 0; i < texts.length; i++) {
            Check.text(x, 0, texts[i]);
            Check.due("fault of '" + texts[i] + "'", x.fault(0), faults[i]);
        }
        x.text(0, 40);
        Check.due("fault of forty blanks", x.fault(0), 40);
        x.put(0, 39, 'N');
        Check.due("forty places with one letter", x.fault(0), NONE);
    }

    private static void machine() {
        SignedPages x = new SignedPages();
        Check.due("machine: no page", x.machine(0, 0, 0), BAD);
        x.note(1, 1);
        Check.dueFinding(x, "machine: NOTHING ahead of UNLIKE", 0, x.machine(0, 0, 0), NOTHING);
        x.text(0, 2);
        Check.dueFinding(x, "machine: UNLIKE ahead of STATE", 0, x.machine(0, 0, 0), UNLIKE);
        int root = Check.root(x, 1, 1, 0, 1, 1, 1, 1, 1, 1, 1, 1, 1, 1);
        Check.due("machine: a FAULT", x.machine(0, 0, root), STATE);
        Check.due("machine: number", x.machine(4, 0, root), BAD);
        Check.due("machine: number below", x.machine(-1, 0, root), BAD);
        Check.due("machine: text", x.machine(0, 4, root), BAD);
        Check.due("no machine yet", x.count(4), 0);
        Check.due("nobody has it", x.whoHas(root), 0);
        Check.text(x, 0, " LH ");
        Check.due("machine", x.machine(3, 0, root), 2);
        Check.due("who begins with a ROOT has it", x.whoHas(root), 8);
        Check.due("its ROOT", x.took(3, 0), root);
        for (int which = 1; which < 5; which++) {
            Check.due("none at first", x.took(3, which), NONE);
        }
        Check.due("runs none", x.runs(3, 9), NONE);
        Check.due("took: which", x.took(3, 5), BAD);
        Check.due("took: which below", x.took(3, -1), BAD);
        Check.due("took: machine", x.took(4, 0), BAD);
        Check.dueFinding(x, "took: missing", 1, x.took(0, 0), NOTHING);
        Check.dueFinding(x, "runs: missing", 2, x.runs(0, 0), NOTHING);
        Check.due("runs: file", x.runs(3, 10), BAD);
        Check.due("whoHas: page", x.whoHas(2), BAD);
        beginsAnew();
    }

    private static void beginsAnew() {
        SignedPages x = world();
        begin(x, 1, "HTLN");
        x.ask(1, 0);
        x.offer(1, 0, 10);
        Check.text(x, 3, "R");
        Check.due("the text may change behind", x.ask(1, 0), NONE);
        Check.due("and it has its steps", x.took(1, 4), LENT);
        Check.due("machine anew", x.machine(1, 3, ROOT), 1);
        Check.due("anew: took", x.took(1, 3), NONE);
        Check.due("anew: runs", x.runs(1, 0), NONE);
        Check.due("who had it, has it", x.whoHas(LIST), 2);
        Check.due("machines", x.count(4), 1);
    }

    private static void askRefused() {
        SignedPages x = world();
        Check.dueFinding(x, "ask: machine missing", 0, x.ask(0, 0), NOTHING);
        begin(x, 0, "L");
        Check.dueFinding(x, "ask: row missing", 1, x.ask(0, 1), NOTHING);
        x.row(1, 6);
        Check.dueFinding(x, "ask: size", 0, x.ask(0, 1), SIZE);
        Check.due("ask: machine", x.ask(4, 0), BAD);
        Check.due("ask: row", x.ask(0, 6), BAD);
        for (int i = 0; i < 5; i++) {
            x.lay(0, i, i == 0 ? 5 : -1);
            Check.dueFinding(x, "ask: no page at " + i, i, x.ask(0, 0), UNLIKE);
            x.lay(0, i, ROOT);
        }
        Check.due("nothing was counted", x.count(5), 0);
    }

    /** A page with every fault at once; then each is mended, and the next WHY shows. */
    private static void whyInOrder() {
        SignedPages x = world();
        begin(x, 0, "HTLNod");
        Check.due("takes all", x.ask(0, 0), NONE);
        x.later(400);
        int bad = x.list(4, 399, 5, 0, false);
        int hour = Check.signed(x, x.hour(5, 500, TOGETHER), 1);
        x.lay(0, 1, hour);
        x.lay(0, 3, NONE);
        Check.due("1", x.ask(0, 0), 21);
        x.lay(0, 3, LENT);
        Check.due("2", x.ask(0, 0), 22);
        x.lay(0, 3, bad);
        Check.due("3", x.ask(0, 0), 23);
        x.sign(bad, 1);
        Check.due("4", x.ask(0, 0), 24);
        int old = Check.signed(x, x.list(4, 400, 5, 0, false), 1);
        x.lay(0, 3, old);
        Check.due("5", x.ask(0, 0), 25);
        int other = Check.signed(x, x.list(5, 400, 5, 0, false), 1);
        x.lay(0, 3, other);
        Check.due("6", x.ask(0, 0), 26);
        for (int why = 1; why <= 6; why++) {
            Check.due("refused(2, " + why + ")", x.refused(2, why), 1);
            Check.due("refused(1, " + why + ")", x.refused(1, why), 0);
        }
        Check.due("all refusals", x.count(5), 6);
        Check.due("refused: step", x.refused(5, 1), BAD);
        Check.due("refused: step below", x.refused(-1, 1), BAD);
        Check.due("refused: why 0", x.refused(0, 0), BAD);
        Check.due("refused: why 7", x.refused(0, 7), BAD);
        begin(x, 1, "HTLN");
        x.lay(0, 3, old);
        Check.due("who looks at no numbers and days: 6", x.ask(1, 0), 26);
        begin(x, 2, "L");
        x.lay(0, 3, bad);
        Check.due("who asks no T takes any LIST", x.ask(2, 0), NONE);
        Check.due("then an older one", x.took(2, 3), bad);
    }

    private static void rootSteps() {
        SignedPages x = new SignedPages();
        int first = Check.root(x, 1, 10, 0, 1, 1, 1, 1, 1, 1, 1, 1, 1, 1);
        int second = Check.root(x, 2, 20, 0, 2, 1, 2, 1, 1, 1, 1, 1, 1, 1);
        int fourth = Check.root(x, 4, 30, 3, 2, 1, 1, 1, 1, 1, 1, 1, 1, 1);
        int list = Check.list(x, 1, 99, 1, 0, false);
        Check.row(x, 0, first, NONE, NONE, NONE, NONE);
        Check.text(x, 0, "Rd");
        x.machine(0, 0, first);
        Check.text(x, 0, "R");
        x.machine(1, 0, first);
        Check.due("the ROOT that it has, though it is signed by none", x.ask(0, 0), NONE);
        x.lay(0, 0, list);
        Check.due("another KIND", x.ask(0, 0), 2);
        x.lay(0, 0, second);
        Check.due("by none", x.ask(0, 0), 3);
        x.sign(second, 2);
        Check.due("by itself alone", x.ask(0, 0), 3);
        x.lay(0, 0, fourth);
        Check.due("not one more, whether it looks or not", x.ask(1, 0), 5);
        x.later(15);
        x.lay(0, 0, NONE);
        Check.due("held back, its ROOT over its day", x.ask(0, 0), 4);
        Check.due("held back, it does not look", x.ask(1, 0), NONE);
        x.lay(0, 0, first);
        Check.due("its own ROOT over its day", x.ask(0, 0), 4);
        x.sign(second, 1);
        x.lay(0, 0, second);
        Check.due("the next one", x.ask(0, 0), NONE);
        Check.due("is its ROOT", x.took(0, 0), second);
        Check.due("whoHas", x.whoHas(second), 1);
        x.lay(0, 0, first);
        x.sign(first, 3);
        Check.due("back: 4 ahead of 5", x.ask(0, 0), 4);
        x.later(6);
        x.lay(0, 0, fourth);
        Check.due("4 is not beyond", x.ask(0, 0), 5);
        newRootCounts();
    }

    /** What a step takes holds for those behind it. */
    private static void newRootCounts() {
        SignedPages x = new SignedPages();
        int first = Check.root(x, 1, 10, 0, 1, 1, 1, 1, 1, 1, 1, 1, 1, 1);
        int second = Check.root(x, 2, 20, 1, 1, 1, 1, 1, 1, 1, 4, 1, 1, 1);
        int list = Check.list(x, 1, 99, 4, 0, false);
        Check.row(x, 0, second, NONE, NONE, list, NONE);
        Check.text(x, 0, "LR");
        x.machine(0, 0, first);
        Check.text(x, 0, "RL");
        x.machine(1, 0, first);
        Check.due("L by the old ROOT", x.ask(0, 0), 3);
        Check.due("reached", x.reached(0), 2);
        Check.due("L by the new ROOT", x.ask(1, 0), NONE);
    }

    private static void names() {
        SignedPages x = world();
        int bare = Check.signed(x, x.together(5, 500, LIST, NONE), 1);
        begin(x, 0, "TH");
        Check.due("T by no H", x.ask(0, 0), 6);
        begin(x, 0, "LT");
        Check.due("L by no T", x.ask(0, 0), 6);
        begin(x, 0, "NT");
        Check.due("N by no T", x.ask(0, 0), 6);
        begin(x, 0, "HT");
        x.lay(0, 2, bare);
        Check.due("T not named", x.ask(0, 0), 16);
        begin(x, 0, "TN");
        Check.due("N not named by a T without one", x.ask(0, 0), 16);
        begin(x, 0, "T");
        Check.due("T without H", x.ask(0, 0), NONE);
        begin(x, 0, "HLN");
        Check.due("L, N without T", x.ask(0, 0), NONE);
        begin(x, 0, "TL");
        x.lay(0, 2, TOGETHER);
        x.ask(0, 0);
        int second = Check.list(x, 1, 500, 1, 0, false);
        x.lay(0, 3, second);
        Check.due("L by the T that it took last", x.ask(0, 0), 16);
    }

    private static void numbers() {
        SignedPages x = world();
        begin(x, 0, "To");
        begin(x, 1, "T");
        x.ask(0, 0);
        x.ask(1, 0);
        int old = Check.signed(x, x.together(4, 500, LIST, LENT), 1);
        int like = Check.signed(x, x.together(5, 500, LIST, LENT), 1);
        x.lay(0, 2, old);
        Check.due("an older T", x.ask(0, 0), 5);
        Check.due("it does not look", x.ask(1, 0), NONE);
        x.lay(0, 2, like);
        Check.due("the same number", x.ask(0, 0), NONE);
        begin(x, 0, "To");
        x.lay(0, 2, old);
        Check.due("anew it took none", x.ask(0, 0), NONE);
    }

    private static void keepsWhatItTookAhead() {
        SignedPages x = world();
        begin(x, 2, "HTLN");
        x.lay(0, 3, NONE);
        Check.due("stops at L", x.ask(2, 0), 21);
        Check.due("H stays", x.took(2, 1), HOUR);
        Check.due("T stays", x.took(2, 2), TOGETHER);
        Check.due("N was not asked", x.took(2, 4), NONE);
        Check.due("who has T", x.whoHas(TOGETHER), 4);
        Check.due("who has N", x.whoHas(LENT), 0);
    }

    private static void offer() {
        SignedPages x = world();
        Check.dueFinding(x, "offer: missing", 0, x.offer(0, 0, 0), NOTHING);
        begin(x, 0, "LN");
        Check.due("offer: machine", x.offer(4, 0, 0), BAD);
        Check.due("offer: file", x.offer(0, 10, 0), BAD);
        Check.due("offer: sum", x.offer(0, 0, 1000), BAD);
        Check.due("offer: sum below", x.offer(0, 0, -1), BAD);
        Check.due("no L was taken", x.offer(0, 0, 10), 7);
        x.lay(0, 4, NONE);
        x.ask(0, 0);
        Check.due("told by L", x.offer(0, 0, 10), NONE);
        Check.due("runs", x.runs(0, 0), 10);
        Check.due("another SUM", x.offer(0, 0, 11), 8);
        Check.due("not told", x.offer(0, 5, 10), 7);
        Check.due("lent, no N", x.offer(0, 1, 11), 7);
        Check.due("lent, told by L too, no N", x.offer(0, 2, 12), 7);
        x.lay(0, 4, LENT);
        x.ask(0, 0);
        Check.due("lent, told by N", x.offer(0, 1, 11), NONE);
        Check.due("lent, another SUM", x.offer(0, 1, 12), 8);
        Check.due("lent, not told by N", x.offer(0, 2, 12), 7);
        Check.due("N tells only what is lent", x.offer(0, 0, 10), NONE);
        begin(x, 1, "L");
        x.ask(1, 0);
        Check.due("it asks no N: L tells", x.offer(1, 2, 12), NONE);
        Check.due("it asks no N: L does not tell", x.offer(1, 1, 11), 7);
        begin(x, 2, "RHTN");
        Check.due("it asks no L", x.offer(2, 9, 999), NONE);
        Check.due("runs what it was offered", x.runs(2, 9), 999);
        Check.due("what runs stays", x.runs(0, 1), 11);
        Check.due("these are no REFUSALS", x.count(5), 1);
    }

    private static void walk() {
        SignedPages x = new SignedPages();
        int[] root = {1, 1, 1, 1, 1, 1, 1, 1, 1, 1};
        Check.root(x, 1, 0, 1, root);
        Check.root(x, 3, 0, 1, root);
        Check.root(x, 2, 0, 1, root);
        Check.dueFinding(x, "walk: missing", 0, x.walk(0), NOTHING);
        Check.due("walk: machine", x.walk(4), BAD);
        Check.text(x, 0, "L");
        x.machine(0, 0, 0);
        Check.due("walk", x.walk(0), 2);
        Check.due("its ROOT", x.took(0, 0), 1);
        Check.due("the one between", x.whoHas(2), 1);
        Check.due("the last one", x.whoHas(1), 1);
        Check.due("walk on", x.walk(0), 0);
    }

    private static void reached() {
        SignedPages x = world();
        Check.due("reached: none", x.reached(0), 0);
        Check.due("reached: row", x.reached(6), BAD);
        Check.dueFinding(x, "reached: missing", 0, x.reached(1), NOTHING);
        x.row(1, 4);
        Check.dueFinding(x, "reached: size", 0, x.reached(1), SIZE);
        begin(x, 0, "RHTLNod");
        begin(x, 1, "LT");
        begin(x, 3, "N");
        Check.due("reached", x.reached(0), 9);
        long before = x.digest();
        x.reached(0);
        Check.due("nothing is taken or counted", x.digest(), before);
        x.later(501);
        Check.due("reached another day", x.reached(0), 8);
        x.lay(0, 2, 5);
        Check.dueFinding(x, "reached: unlike", 0, x.reached(0), UNLIKE);
    }

    private static void noisy() {
        SignedPages x = world();
        begin(x, 0, "LN");
        x.lay(0, 3, NONE);
        x.ask(0, 0);
        x.ask(0, 0);
        Check.dueFinding(x, "noisy: missing", 0, x.noisy(1, 1, 2), NOTHING);
        x.row(1, 4);
        Check.dueFinding(x, "noisy: size", 0, x.noisy(1, 1, 2), SIZE);
        Check.row(x, 1, 0, 0, 0, 0, -100);
        Check.dueFinding(x, "noisy: unlike", 0, x.noisy(1, 1, 2), UNLIKE);
        x.lay(1, 4, 100);
        Check.dueFinding(x, "noisy: unlike", 1, x.noisy(1, 1, 2), UNLIKE);
        Check.due("noisy: why", x.noisy(7, 1, 2), BAD);
        Check.due("noisy: why 0", x.noisy(0, 1, 2), BAD);
        Check.due("noisy: noise", x.noisy(1, 6, 2), BAD);
        Check.due("noisy: row", x.noisy(1, 1, 6), BAD);
        Check.row(x, 1, 3, -99, 99, 0, -1);
        Check.due("noisy", x.noisy(1, 1, 2), 104);
        int[] told = {5, 0, 99, 0, 0};
        for (int step = 0; step < 5; step++) {
            x.at(2, step);
            Check.due("noisy " + step, x.asked(), told[step]);
        }
        Check.due("a row of five", x.at(2, 5), SignedPages.FINDING);
        x.lay(1, 0, -3);
        Check.due("noisy into its own row", x.noisy(1, 1, 1), 99);
        x.at(1, 0);
        Check.due("below 0: 0", x.asked(), 0);
        Check.due("the counts stay", x.refused(0, 1), 2);
    }

    private static void writes() {
        SignedPages x = world();
        Check.dueFinding(x, "writes: missing", 0, x.writes(0, 1, 0), NOTHING);
        Check.dueFinding(x, "neither: missing", 1, x.neither(0, 1), NOTHING);
        begin(x, 0, "R");
        for (int n = 1; n <= 40; n++) {
            SignedPages y = world();
            begin(y, 0, "R");
            begin(y, 1, "Rw");
            for (int k = 0; k <= n; k++) {
                Check.due("one place", y.writes(0, n, k), k == 0 ? 0 : k == n ? 1 : 2);
                Check.due("two places", y.writes(1, n, k), k < n ? 0 : 1);
            }
            Check.due("one place: neither", y.neither(0, n), n - 1);
            Check.due("two places: neither", y.neither(1, n), 0);
        }
        int[][] bad = {{4, 1, 0}, {-1, 1, 0}, {0, 0, 0}, {0, 41, 0}, {0, 1, 2}, {0, 1, -1}};
        for (int[] one : bad) {
            Check.due("writes: bad", x.writes(one[0], one[1], one[2]), BAD);
        }
        Check.due("neither: machine", x.neither(4, 1), BAD);
        Check.due("neither: n", x.neither(0, 0), BAD);
        Check.due("neither: n", x.neither(0, 41), BAD);
    }
}
