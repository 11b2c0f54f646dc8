/** Boundaries of promises 22 to 32, and of the Terms on machines, what they ask, take, refuse and run. */
final class MachineBounds {
    private static final int R = 0, H = 1, T = 2, L = 3, N = 4;

    private MachineBounds() {
    }

    static void all() {
        termsMachines();
        termsBlanks();
        termsCapitals();
        termsSmallOnes();
        termsFault();
        termsAtFirst();
        termsCopies();
        termsStops();
        whyHeldBack();
        whyKind();
        whyShort();
        whyShortRoot();
        whyOver();
        whyOverRoot();
        whyOlder();
        whyOlderRoot();
        whyNotNamed();
        whyFirst();
        offerWithoutL();
        offerNotTold();
        offerOtherSum();
        termsRefusals();
        termsNoise();
        termsWhoHas();
        termsReached();
        fault();
        faultBad();
        faultNothing();
        machine();
        machineAnew();
        machineBad();
        machineNothing();
        machineUnlike();
        machineState();
        ask();
        askBad();
        askNothing();
        askSize();
        askUnlike();
        offer();
        offerBad();
        offerNothing();
        runs();
        runsBad();
        runsNothing();
        took();
        tookBad();
        tookNothing();
        walk();
        walkBad();
        walkNothing();
        whoHas();
        whoHasBad();
        reached();
        reachedBad();
        reachedNothing();
        reachedSize();
        reachedUnlike();
        refused();
        refusedBad();
        noisy();
        noisyAnew();
        noisyBad();
        noisyNothing();
        noisySize();
        noisyUnlike();
    }

    private static void dueFault(SignedPages x, String letters, int place) {
        Check.text(x, 0, letters);
        Bound.due("fault of '" + letters + "'", x.fault(0), place);
    }

    private static void dueAsk(SignedPages x, int m, int role, int copy, int answer) {
        x.lay(0, role, copy);
        Bound.due("machine " + m + " with copy " + copy + " for step letter " + "RHTLN".charAt(role), x.ask(m, 0), answer);
    }

    private static void termsMachines() {
        Bound.of(Bound.TERMS, "MACHINES 0 .. 3 (missing at first) are told by a TEXT");
        SignedPages x = Bound.world();
        for (int m = 0; m <= 3; m++) {
            int machine = m;
            Bound.found(x, "machine " + m + " at first", Bound.NOTHING, () -> x.took(machine, 0));
            Bound.begin(x, m, "L");
            Bound.due("machines", x.count(4), m + 1);
        }
        for (int m : Bound.outside(0, 3)) {
            Bound.refused(x, "machine " + m, Bound.BAD, () -> x.machine(m, 3, 0));
        }
    }

    private static void termsBlanks() {
        Bound.of(Bound.TERMS, "blanks (32) ahead and behind as many as wanted");
        SignedPages x = new SignedPages();
        dueFault(x, "L", Bound.NONE);
        dueFault(x, " L", Bound.NONE);
        dueFault(x, "L ", Bound.NONE);
        dueFault(x, "Lo  ", Bound.NONE);
        dueFault(x, " ".repeat(39) + "L", Bound.NONE);
        dueFault(x, "L" + " ".repeat(39), Bound.NONE);
        dueFault(x, " ".repeat(16) + "RHTLNodw" + " ".repeat(16), Bound.NONE);
        dueFault(x, "L H", 2);
        dueFault(x, "L o", 2);
        dueFault(x, "Lo w", 3);
        dueFault(x, "\tL", 0);
        dueFault(x, "L\u0000", 1);
        dueFault(x, "L\u00a0", 1);
        dueFault(x, "\u0021L", 0);
        dueFault(x, "\u001fL", 0);
    }

    private static void termsCapitals() {
        Bound.of(Bound.TERMS, "capitals R (82), H (72), T (84), L (76), N (78), each at most once, one at least, in the order in which it asks");
        SignedPages x = new SignedPages();
        for (int letter = 0; letter < 256; letter++) {
            x.text(0, 1);
            x.put(0, 0, letter);
            int place = "RHTLN".indexOf(letter) >= 0 ? Bound.NONE : letter == 32 ? 1 : 0;
            if (x.fault(0) != place) {
                Bound.due("a text of byte " + letter, x.fault(0), place);
            }
            x = letter % 128 == 0 ? new SignedPages() : x;
        }
        SignedPages y = new SignedPages();
        dueFault(y, "RHTLN", Bound.NONE);
        dueFault(y, "NLTHR", Bound.NONE);
        dueFault(y, "", 0);
        dueFault(y, "o", 0);
        dueFault(y, "odw", 0);
        for (char letter : "RHTLN".toCharArray()) {
            dueFault(y, letter + "" + letter, 1);
            dueFault(y, "RHTLN" + letter, 5);
            dueFault(y, letter + "o" + letter, 2);
        }
        ordersByText();
    }

    private static void ordersByText() {
        int[] pages = {Bound.ROOT, Bound.HOUR, Bound.TOGETHER, Bound.LIST, Bound.LENT};
        for (int letter = 1; letter < 5; letter++) {
            SignedPages x = Bound.world();
            x.lay(0, letter, Bound.NONE);
            Bound.begin(x, 0, "RHTLN");
            Bound.due("held back at step " + letter, x.ask(0, 0), 10 * letter + 1);
            Bound.begin(x, 1, "" + "RHTLN".charAt(letter));
            Bound.due("the only step", x.ask(1, 0), 1);
            x.lay(0, letter, pages[letter]);
            Bound.due("the only step with its copy", x.ask(1, 0), Bound.NONE);
            Bound.due("what it took", x.took(1, letter), pages[letter]);
        }
    }

    private static void termsSmallOnes() {
        Bound.of(Bound.TERMS, "then small ones, each at most once: o (111: looks at NUMBERS), d (100: at DAYS), w (119: writes to two places).");
        SignedPages x = new SignedPages();
        for (int letter = 0; letter < 256; letter++) {
            x.text(0, 2);
            x.put(0, 0, 'L');
            x.put(0, 1, letter);
            int place = "odw RHTN".indexOf(letter) >= 0 ? Bound.NONE : 1;
            if (x.fault(0) != place) {
                Bound.due("a text of L and byte " + letter, x.fault(0), place);
            }
            x = letter % 64 == 0 ? new SignedPages() : x;
        }
        SignedPages y = new SignedPages();
        for (String letters : new String[] {"Lodw", "Lowd", "Ldow", "Ldwo", "Lwod", "Lwdo", "Lod", "Lw"}) {
            dueFault(y, letters, Bound.NONE);
        }
        dueFault(y, "Loo", 2);
        dueFault(y, "Ldd", 2);
        dueFault(y, "Lww", 2);
        dueFault(y, "Lodwo", 4);
        dueFault(y, "Lodwd", 4);
        dueFault(y, "Lodww", 4);
        dueFault(y, "LoH", 2);
        dueFault(y, "oL", 0);
    }

    private static void termsFault() {
        Bound.of(Bound.TERMS, "A FAULT is the first place at which it can't go on so "
            + "(a letter that comes twice: its place; the TEXT's size, if there is none).");
        SignedPages x = new SignedPages();
        dueFault(x, "", 0);
        dueFault(x, " ", 1);
        dueFault(x, " ".repeat(40), 40);
        dueFault(x, " ".repeat(39) + "x", 39);
        dueFault(x, "  RHR", 4);
        dueFault(x, "xx", 0);
        dueFault(x, "RxRx", 1);
        dueFault(x, "Rooo", 2);
        dueFault(x, "  o", 2);
        dueFault(x, "RH" + " ".repeat(37) + "T", 39);
        dueFault(x, "R o", 2);
        dueFault(x, "RHTLNodw" + " ".repeat(31) + "o", 39);
    }

    private static void termsAtFirst() {
        Bound.of(Bound.TERMS, "A MACHINE has a ROOT (told as it is begun), and takes a PAGE of each of H, T, L, N as it goes (none at first); "
            + "of FILES what it RUNS (none at first).");
        SignedPages x = Bound.world();
        int other = Check.root(x, 9, 1, 0, Bound.KEY_0);
        Check.text(x, 3, "RHTLN");
        x.machine(0, 3, other);
        Bound.due("its ROOT, signed by none", x.took(0, R), other);
        for (int which = H; which <= N; which++) {
            Bound.due("took " + which, x.took(0, which), Bound.NONE);
        }
        for (int file = 0; file <= 9; file++) {
            Bound.due("runs " + file, x.runs(0, file), Bound.NONE);
        }
    }

    private static void termsCopies() {
        Bound.of(Bound.TERMS, "ASKED is a MACHINE with copies (a ROW of five: PAGES for R, H, T, L, N; NONE: held back)");
        SignedPages x = Bound.world();
        Bound.begin(x, 0, "RHTLN");
        Bound.due("all copies", x.ask(0, 0), Bound.NONE);
        int[] pages = {Bound.ROOT, Bound.HOUR, Bound.TOGETHER, Bound.LIST, Bound.LENT};
        for (int which = R; which <= N; which++) {
            Bound.due("took " + which, x.took(0, which), pages[which]);
        }
        Check.row(x, 1, Bound.NONE, Bound.NONE, Bound.NONE, Bound.NONE, Bound.NONE);
        Bound.due("all held back", x.ask(0, 1), 11);
        Bound.begin(x, 1, "R");
        Bound.due("all held back from one that asks R alone", x.ask(1, 1), Bound.NONE);
    }

    private static void termsStops() {
        Bound.of(Bound.TERMS, "it asks by its order, and stops at the first step that it refuses; what it took ahead stays taken.");
        SignedPages x = Bound.world();
        x.lay(0, T, Bound.NONE);
        x.lay(0, N, Bound.NONE);
        Bound.begin(x, 0, "HTLN");
        Bound.due("stops at T, not at N", x.ask(0, 0), 11);
        Bound.due("H stays taken", x.took(0, H), Bound.HOUR);
        Bound.due("L is not taken", x.took(0, L), Bound.NONE);
        Bound.due("one refusal", x.count(5), 1);
        Bound.due("who has H", x.whoHas(Bound.HOUR), 1);
        Bound.due("who has L", x.whoHas(Bound.LIST), 0);
        Bound.begin(x, 0, "NTHL");
        Bound.due("another order", x.ask(0, 0), 1);
        Bound.due("nothing was ahead", x.took(0, H), Bound.NONE);
    }

    private static void whyHeldBack() {
        Bound.of(Bound.TERMS, "WHY, the first of these: 1 held back (R: that is no reason, it keeps its ROOT)");
        SignedPages x = Bound.world();
        Bound.begin(x, 0, "RH");
        dueAsk(x, 0, R, Bound.NONE, Bound.NONE);
        Bound.due("it keeps its ROOT", x.took(0, R), Bound.ROOT);
        dueAsk(x, 0, H, Bound.NONE, 11);
        Bound.due("it keeps its HOUR", x.took(0, H), Bound.HOUR);
        for (int letter = H; letter <= N; letter++) {
            SignedPages y = Bound.world();
            Bound.begin(y, 0, "" + "RHTLN".charAt(letter));
            dueAsk(y, 0, letter, Bound.NONE, 1);
        }
    }

    private static void whyKind() {
        Bound.of(Bound.TERMS, "2 another KIND (L: not KIND 2, N: not KIND 3)");
        int[] pages = {Bound.ROOT, Bound.HOUR, Bound.TOGETHER, Bound.LIST, Bound.LENT};
        for (int letter = R; letter <= N; letter++) {
            SignedPages x = Bound.world();
            int note = Check.signed(x, x.note(2, 500), 1023);
            Bound.begin(x, 0, "" + "RHTLN".charAt(letter));
            dueAsk(x, 0, letter, note, 2);
            for (int page : pages) {
                dueAsk(x, 0, letter, page, page == pages[letter] ? Bound.NONE : 2);
            }
        }
    }

    private static void whyShort() {
        Bound.of(Bound.TERMS, "3 short of signatures (not GOOD by its ROOT;");
        for (int letter = H; letter <= N; letter++) {
            SignedPages x = new SignedPages();
            Check.root(x, 1, 500, 0, 7, 2, 56, 2, 7, 2, 56, 2, 7, 2);
            Check.list(x, 5, 500, 0, 0, false);
            Check.list(x, 5, 500, 0, 0, true);
            x.together(5, 500, Bound.LIST, Bound.LENT);
            x.hour(5, 500, Bound.TOGETHER);
            Check.row(x, 0, Bound.ROOT, Bound.HOUR, Bound.TOGETHER, Bound.LIST, Bound.LENT);
            int page = new int[] {Bound.ROOT, Bound.HOUR, Bound.TOGETHER, Bound.LIST, Bound.LENT}[letter];
            int keys = letter == H || letter == L ? 56 : 7;
            Bound.begin(x, 0, "" + "RHTLN".charAt(letter));
            dueAsk(x, 0, letter, page, 3);
            x.sign(page, 1023 & ~keys);
            dueAsk(x, 0, letter, page, 3);
            x.sign(page, Integer.lowestOneBit(keys));
            dueAsk(x, 0, letter, page, 3);
            x.sign(page, Integer.highestOneBit(keys));
            dueAsk(x, 0, letter, page, Bound.NONE);
        }
    }

    private static void whyShortRoot() {
        Bound.of(Bound.TERMS, "R: not GOOD by its ROOT, nor by itself: by both it has to be; the ROOT that it has is taken as it is)");
        SignedPages x = new SignedPages();
        int first = Check.root(x, 1, 500, 0, 3, 2, 1, 1, 1, 1, 1, 1, 1, 1);
        int byOld = Check.root(x, 2, 500, 3, 12, 2, 1, 1, 1, 1, 1, 1, 1, 1);
        int byNew = Check.root(x, 2, 500, 12, 12, 2, 1, 1, 1, 1, 1, 1, 1, 1);
        int byNone = Check.root(x, 2, 500, 0, 12, 2, 1, 1, 1, 1, 1, 1, 1, 1);
        Check.row(x, 0, first, Bound.NONE, Bound.NONE, Bound.NONE, Bound.NONE);
        Check.text(x, 3, "R");
        x.machine(0, 3, first);
        dueAsk(x, 0, R, first, Bound.NONE);
        dueAsk(x, 0, R, byOld, 3);
        dueAsk(x, 0, R, byNew, 3);
        dueAsk(x, 0, R, byNone, 3);
        x.sign(byOld, 4);
        dueAsk(x, 0, R, byOld, 3);
        x.sign(byOld, 8);
        dueAsk(x, 0, R, byOld, Bound.NONE);
        Bound.due("its ROOT", x.took(0, R), byOld);
        dueAsk(x, 0, R, byOld, Bound.NONE);
    }

    private static void whyOver() {
        Bound.of(Bound.TERMS, "4 over its DAY (if it looks: TODAY is beyond it;");
        for (int letter = H; letter <= N; letter++) {
            SignedPages x = Bound.world();
            Bound.begin(x, 0, "RHTLN".charAt(letter) + "d");
            Bound.begin(x, 1, "RHTLN".charAt(letter) + "ow");
            x.later(500);
            Bound.due("on its last day", x.ask(0, 0), Bound.NONE);
            x.later(1);
            Bound.due("a day beyond", x.ask(0, 0), 4);
            Bound.due("it does not look", x.ask(1, 0), Bound.NONE);
        }
        SignedPages y = new SignedPages();
        Check.root(y, 1, 0, 0, Bound.KEY_0);
        Check.list(y, 1, 999, 1, 0, false);
        Check.list(y, 1, 0, 1, 0, false);
        Check.row(y, 0, 0, Bound.NONE, Bound.NONE, 1, Bound.NONE);
        Bound.begin(y, 0, "Ld");
        dueAsk(y, 0, L, 2, Bound.NONE);
        y.later(999);
        dueAsk(y, 0, L, 2, 4);
        dueAsk(y, 0, L, 1, Bound.NONE);
    }

    private static void whyOverRoot() {
        Bound.of(Bound.TERMS, "R held back: its ROOT's)");
        SignedPages x = new SignedPages();
        int first = Check.root(x, 1, 5, 1, Bound.KEY_0);
        int second = Check.root(x, 2, 6, 1, Bound.KEY_0);
        Check.row(x, 0, Bound.NONE, Bound.NONE, Bound.NONE, Bound.NONE, Bound.NONE);
        Check.text(x, 3, "Rd");
        x.machine(0, 3, first);
        Check.text(x, 3, "Row");
        x.machine(1, 3, first);
        x.later(5);
        dueAsk(x, 0, R, Bound.NONE, Bound.NONE);
        x.later(1);
        dueAsk(x, 0, R, Bound.NONE, 4);
        dueAsk(x, 0, R, first, 4);
        dueAsk(x, 1, R, Bound.NONE, Bound.NONE);
        dueAsk(x, 0, R, second, Bound.NONE);
        dueAsk(x, 0, R, Bound.NONE, Bound.NONE);
        x.later(1);
        dueAsk(x, 0, R, Bound.NONE, 4);
        dueAsk(x, 1, R, second, Bound.NONE);
        Bound.begin(x, 2, "Rd");
        dueAsk(x, 2, R, second, 4);
    }

    private static void whyOlder() {
        Bound.of(Bound.TERMS, "5 its NUMBER is less than that of the one that it took last (if it looks;");
        SignedPages x = Bound.world();
        int old = Check.list(x, 4, 500, 1, 0, false);
        int like = Check.list(x, 5, 500, 1, 0, false);
        int newer = Check.list(x, 99, 500, 1, 0, false);
        int least = Check.list(x, 1, 500, 1, 0, false);
        Bound.begin(x, 0, "Lo");
        Bound.begin(x, 1, "Ldw");
        dueAsk(x, 0, L, Bound.LIST, Bound.NONE);
        dueAsk(x, 0, L, old, 5);
        Bound.due("it keeps what it took", x.took(0, L), Bound.LIST);
        dueAsk(x, 0, L, like, Bound.NONE);
        dueAsk(x, 0, L, newer, Bound.NONE);
        dueAsk(x, 0, L, like, 5);
        dueAsk(x, 0, L, least, 5);
        dueAsk(x, 1, L, newer, Bound.NONE);
        dueAsk(x, 1, L, least, Bound.NONE);
        Bound.begin(x, 0, "Lo");
        dueAsk(x, 0, L, least, Bound.NONE);
        olderOfEachKind();
    }

    private static void olderOfEachKind() {
        SignedPages x = Bound.world();
        Bound.begin(x, 0, "NTo");
        int lent = Check.list(x, 4, 500, 1, 0, true);
        Bound.begin(x, 1, "No");
        Bound.begin(x, 2, "To");
        Bound.begin(x, 3, "Ho");
        for (int m = 1; m <= 3; m++) {
            Bound.due("takes the newer one", x.ask(m, 0), Bound.NONE);
        }
        int together = Check.signed(x, x.together(4, 500, Bound.LIST, Bound.NONE), 1);
        int hour = Check.signed(x, x.hour(4, 500, Bound.TOGETHER), 1);
        dueAsk(x, 1, N, lent, 5);
        dueAsk(x, 2, T, together, 5);
        dueAsk(x, 3, H, hour, 5);
    }

    private static void whyOlderRoot() {
        Bound.of(Bound.TERMS, "R: is not one more than its ROOT's, whether it looks or not, but for the ROOT that it has)");
        for (String letters : new String[] {"R", "Ro"}) {
            SignedPages x = new SignedPages();
            int own = Check.root(x, 97, 500, 1, Bound.KEY_0);
            int like = Check.root(x, 97, 500, 1, Bound.KEY_0);
            int less = Check.root(x, 96, 500, 1, Bound.KEY_0);
            int twoMore = Check.root(x, 99, 500, 1, Bound.KEY_0);
            int oneMore = Check.root(x, 98, 500, 1, Bound.KEY_0);
            int least = Check.root(x, 1, 500, 1, Bound.KEY_0);
            Check.row(x, 0, own, Bound.NONE, Bound.NONE, Bound.NONE, Bound.NONE);
            Bound.begin(x, 0, letters);
            dueAsk(x, 0, R, own, Bound.NONE);
            dueAsk(x, 0, R, like, 5);
            dueAsk(x, 0, R, less, 5);
            dueAsk(x, 0, R, twoMore, 5);
            dueAsk(x, 0, R, oneMore, Bound.NONE);
            dueAsk(x, 0, R, own, 5);
            dueAsk(x, 0, R, twoMore, Bound.NONE);
            dueAsk(x, 0, R, least, 5);
            dueAsk(x, 0, R, twoMore, Bound.NONE);
        }
    }

    private static void whyNotNamed() {
        Bound.of(Bound.TERMS, "6 not the one that is named: T, if it asks H, by the H that it took last; "
            + "L, N, if it asks T, by the T that it took last (by none: not the one, too).");
        String[] orders = {"TH", "LT", "NT", "T", "L", "N", "HL", "HN", "LN", "HT", "TL", "TN"};
        int[] answers = {6, 6, 6, Bound.NONE, Bound.NONE, Bound.NONE, Bound.NONE, Bound.NONE, Bound.NONE, 16, 16, 16};
        for (int i = 0; i < orders.length; i++) {
            SignedPages x = Bound.world();
            int together = Check.signed(x, x.together(5, 500, Bound.LIST, Bound.NONE), 1);
            int list = Check.list(x, 5, 500, 1, 0, false);
            Check.row(x, 0, 0, Bound.HOUR, together, orders[i].equals("TL") ? list : Bound.LIST, Bound.LENT);
            Bound.begin(x, 0, orders[i]);
            Bound.due("order " + orders[i], x.ask(0, 0), answers[i]);
        }
        namedByTheLastOne();
    }

    private static void namedByTheLastOne() {
        SignedPages x = Bound.world();
        int list = Check.list(x, 5, 500, 1, 0, false);
        int together = Check.signed(x, x.together(5, 500, list, Bound.NONE), 1);
        int hour = Check.signed(x, x.hour(5, 500, together), 1);
        Bound.begin(x, 0, "HTL");
        Bound.due("H, T and L", x.ask(0, 0), Bound.NONE);
        dueAsk(x, 0, H, hour, 16);
        dueAsk(x, 0, H, Bound.NONE, 1);
        dueAsk(x, 0, H, hour, 16);
        dueAsk(x, 0, T, together, 26);
        dueAsk(x, 0, L, list, Bound.NONE);
        dueAsk(x, 0, L, Bound.LIST, 26);
    }

    private static void whyFirst() {
        Bound.of(Bound.TERMS, "WHY, the first of these:");
        SignedPages x = Bound.world();
        Bound.begin(x, 0, "TLod");
        x.ask(0, 0);
        x.later(1);
        int hasAll = x.list(4, 0, 5, 0, true);
        int lacksKind = x.list(4, 0, 5, 0, false);
        dueAsk(x, 0, L, Bound.NONE, 11);
        dueAsk(x, 0, L, hasAll, 12);
        dueAsk(x, 0, L, lacksKind, 13);
        x.sign(lacksKind, 1);
        dueAsk(x, 0, L, lacksKind, 14);
        int inTime = Check.signed(x, x.list(4, 1, 5, 0, false), 1);
        dueAsk(x, 0, L, inTime, 15);
        int newEnough = Check.signed(x, x.list(5, 1, 5, 0, false), 1);
        dueAsk(x, 0, L, newEnough, 16);
        dueAsk(x, 0, L, Bound.LIST, Bound.NONE);
        firstForRoots();
    }

    private static void firstForRoots() {
        SignedPages x = new SignedPages();
        Check.root(x, 1, 500, 1, Bound.KEY_0);
        int list = Check.list(x, 9, 0, 0, 0, false);
        int allWrong = Check.root(x, 9, 0, 0, Bound.KEY_0);
        Check.row(x, 0, list, Bound.NONE, Bound.NONE, Bound.NONE, Bound.NONE);
        Bound.begin(x, 0, "Rd");
        x.later(1);
        dueAsk(x, 0, R, list, 2);
        dueAsk(x, 0, R, allWrong, 3);
        x.sign(allWrong, 1);
        dueAsk(x, 0, R, allWrong, 4);
        Bound.begin(x, 1, "R");
        dueAsk(x, 1, R, allWrong, 5);
    }

    private static void offerWithoutL() {
        Bound.of(Bound.TERMS, "A FILE with a SUM is OFFERED: if it does not ask L, it RUNS");
        SignedPages x = Bound.world();
        for (String letters : new String[] {"R", "H", "T", "N", "RHTN"}) {
            Bound.begin(x, 0, letters);
            Bound.due("the least", x.offer(0, 0, 0), Bound.NONE);
            Bound.due("the greatest", x.offer(0, 9, 999), Bound.NONE);
            Bound.due("runs the least", x.runs(0, 0), 0);
            Bound.due("runs the greatest", x.runs(0, 9), 999);
        }
    }

    private static void offerNotTold() {
        Bound.of(Bound.TERMS, "else WHY: 7 no L was taken, or L (N, if the L LENDS it and it asks N) does not tell it (no N: too)");
        SignedPages x = Bound.world();
        Bound.begin(x, 0, "LN");
        Bound.due("no L was taken", x.offer(0, 0, 10), 7);
        dueAsk(x, 0, N, Bound.NONE, 11);
        Bound.due("L tells it", x.offer(0, 0, 10), Bound.NONE);
        Bound.due("L does not tell it", x.offer(0, 9, 0), 7);
        Bound.due("lent, no N", x.offer(0, 1, 11), 7);
        Bound.due("lent, L tells it, no N", x.offer(0, 2, 12), 7);
        dueAsk(x, 0, N, Bound.LENT, Bound.NONE);
        Bound.due("lent, N tells it", x.offer(0, 1, 11), Bound.NONE);
        Bound.due("lent, L tells it, N does not", x.offer(0, 2, 12), 7);
        Bound.due("not lent, L tells it", x.offer(0, 0, 10), Bound.NONE);
        Bound.begin(x, 1, "L");
        Bound.due("takes L", x.ask(1, 0), Bound.NONE);
        Bound.due("lent, it asks no N, L tells it", x.offer(1, 2, 12), Bound.NONE);
        Bound.due("lent, it asks no N, L does not tell it", x.offer(1, 1, 11), 7);
        Bound.due("runs none of it", x.runs(1, 1), Bound.NONE);
        lentAtTheEdges();
    }

    private static void lentAtTheEdges() {
        SignedPages x = new SignedPages();
        Check.root(x, 1, 500, 1, Bound.KEY_0);
        int list = Check.list(x, 1, 500, 1, 512 + 1, false, 0, 1, 9, 2, 8, 3);
        int lent = Check.list(x, 1, 500, 1, 0, true, 0, 4, 9, 5, 8, 6);
        Check.row(x, 0, 0, Bound.NONE, Bound.NONE, list, lent);
        Bound.begin(x, 0, "NL");
        x.ask(0, 0);
        Bound.due("file 0 is lent", x.offer(0, 0, 4), Bound.NONE);
        Bound.due("file 9 is lent", x.offer(0, 9, 5), Bound.NONE);
        Bound.due("file 8 is not", x.offer(0, 8, 3), Bound.NONE);
    }

    private static void offerOtherSum() {
        Bound.of(Bound.TERMS, "8 another SUM.");
        SignedPages x = Bound.world();
        Bound.begin(x, 0, "LN");
        x.ask(0, 0);
        Bound.due("one less", x.offer(0, 0, 9), 8);
        Bound.due("one more", x.offer(0, 0, 11), 8);
        Bound.due("runs none", x.runs(0, 0), Bound.NONE);
        Bound.due("the same", x.offer(0, 0, 10), Bound.NONE);
        Bound.due("one more of a lent one", x.offer(0, 1, 12), 8);
        Bound.due("0 of a lent one", x.offer(0, 1, 0), 8);
        Bound.due("another one does not stop what runs", x.offer(0, 0, 11), 8);
        Bound.due("runs", x.runs(0, 0), 10);
    }

    private static void termsRefusals() {
        Bound.of(Bound.TERMS, "REFUSALS are counted by steps and WHY.");
        SignedPages x = Bound.world();
        Bound.begin(x, 0, "RHTLN");
        Bound.begin(x, 3, "N");
        dueAsk(x, 0, N, Bound.NONE, 41);
        dueAsk(x, 3, N, Bound.NONE, 1);
        dueAsk(x, 3, N, Bound.ROOT, 2);
        dueAsk(x, 3, N, Bound.ROOT, 2);
        dueAsk(x, 3, N, Bound.LENT, Bound.NONE);
        for (int step = 0; step <= 4; step++) {
            for (int why = 1; why <= 6; why++) {
                int due = step == 4 && why == 1 ? 1 : step == 0 && why == 1 ? 1 : step == 0 && why == 2 ? 2 : 0;
                Bound.due("refused(" + step + ", " + why + ")", x.refused(step, why), due);
            }
        }
        Bound.due("all", x.count(5), 4);
        Bound.begin(x, 3, "L");
        Bound.due("an offer that is not run", x.offer(3, 0, 0), 7);
        Bound.due("is none of them", x.count(5), 4);
        Bound.due("begun anew, they stay", x.refused(0, 2), 2);
    }

    private static void termsNoise() {
        Bound.of(Bound.TERMS, "TOLD with noise: each by a row of numbers that is added, below 0: 0.");
        SignedPages x = Bound.world();
        Bound.begin(x, 0, "L");
        x.lay(0, L, Bound.NONE);
        x.ask(0, 0);
        x.ask(0, 0);
        int[] noises = {-99, -3, -2, -1, 0, 1, 99};
        int[] sums = {0, 0, 0, 1, 2, 3, 101};
        for (int i = 0; i < noises.length; i++) {
            Check.row(x, 1, noises[i], 0, 0, 0, 0);
            Bound.due("two and " + noises[i], x.noisy(1, 1, 2), sums[i]);
            Bound.dueRow(x, 2, sums[i], 0, 0, 0, 0);
        }
        Check.row(x, 1, -99, 5, -1, 0, 7);
        Bound.due("one below 0 takes nothing from the others", x.noisy(1, 1, 2), 12);
        Bound.dueRow(x, 2, 0, 5, 0, 0, 7);
    }

    private static void termsWhoHas() {
        Bound.of(Bound.TERMS, "WHO HAS: MACHINES that took a PAGE (ever; the ROOT with which one begins, those of a CHAIN that it walks, too; "
            + "by numbers of MACHINES, begun anew or not).");
        SignedPages x = Bound.world();
        int second = Check.root(x, 2, 500, 1, Bound.KEY_0);
        int third = Check.root(x, 3, 500, 1, Bound.KEY_0);
        Bound.begin(x, 0, "L");
        Bound.begin(x, 3, "L");
        Bound.due("begun with it", x.whoHas(Bound.ROOT), 9);
        x.ask(3, 0);
        Bound.due("took it", x.whoHas(Bound.LIST), 8);
        int newer = Check.list(x, 6, 500, 1, 0, false);
        dueAsk(x, 3, L, newer, Bound.NONE);
        Bound.due("took another one since", x.whoHas(Bound.LIST), 8);
        x.walk(0);
        Bound.due("walked over it", x.whoHas(second), 1);
        Bound.due("walked to it", x.whoHas(third), 1);
        Bound.begin(x, 1, "R");
        dueAsk(x, 1, R, second, Bound.NONE);
        Bound.due("took it as its ROOT", x.whoHas(second), 3);
        Check.text(x, 3, "H");
        x.machine(3, 3, third);
        x.machine(0, 3, third);
        Bound.due("begun anew, it has it still", x.whoHas(Bound.LIST), 8);
        Bound.due("and the ROOT it had", x.whoHas(Bound.ROOT), 11);
        Bound.due("and the one it begins with", x.whoHas(third), 9);
        Bound.due("a page that nobody took", x.whoHas(Bound.LENT), 0);
    }

    private static void termsReached() {
        Bound.of(Bound.TERMS, "REACHED are MACHINES that would take a ROW of copies TODAY whole.");
        SignedPages x = Bound.world();
        Bound.begin(x, 0, "RHTLNd");
        Bound.begin(x, 1, "RHTLN");
        Bound.begin(x, 3, "LT");
        x.later(500);
        Bound.due("on the last day", x.reached(0), 3);
        x.later(1);
        Bound.due("a day beyond", x.reached(0), 2);
        x.lay(0, N, Bound.NONE);
        Bound.due("all but the last step is not whole", x.reached(0), 0);
    }

    private static void fault() {
        Bound.of(22, "A FAULT of a TEXT; NONE: there is none.");
        SignedPages x = new SignedPages();
        dueFault(x, "", 0);
        dueFault(x, "N", Bound.NONE);
        dueFault(x, " ".repeat(40), 40);
        dueFault(x, " ".repeat(39) + "N", Bound.NONE);
        for (int t = 0; t <= 3; t++) {
            Check.text(x, t, "  TT".substring(0, t + 1));
        }
        int[] faults = {1, 2, Bound.NONE, 3};
        for (int t = 0; t <= 3; t++) {
            Bound.due("text " + t, x.fault(t), faults[t]);
        }
    }

    private static void faultBad() {
        Bound.of(22, "BAD");
        SignedPages x = new SignedPages();
        Check.text(x, 0, "L");
        Check.text(x, 3, "L");
        for (int t : Bound.outside(0, 3)) {
            Bound.refused(x, "text " + t, Bound.BAD, () -> x.fault(t));
        }
    }

    private static void faultNothing() {
        Bound.of(22, "NOTHING.");
        SignedPages x = new SignedPages();
        for (int t = 0; t <= 3; t++) {
            int text = t;
            Bound.found(x, "text " + t, Bound.NOTHING, () -> x.fault(text));
        }
    }

    private static void machine() {
        Bound.of(23, "A MACHINE by a TEXT, with a ROOT, begins (anew): how many steps it has.");
        SignedPages x = Bound.world();
        String[] texts = {"R", " N ", "TLow", "RHTLNodw"};
        int[] steps = {1, 1, 2, 5};
        for (int m = 0; m <= 3; m++) {
            Check.text(x, m, texts[m]);
            Bound.due("machine " + m, x.machine(m, m, Bound.ROOT), steps[m]);
        }
    }

    private static void machineAnew() {
        Bound.of(23, "begins (anew)");
        SignedPages x = Bound.world();
        Bound.begin(x, 3, "HTLNo");
        x.ask(3, 0);
        x.offer(3, 0, 10);
        Bound.begin(x, 3, "Lo");
        Bound.due("machines", x.count(4), 1);
        for (int which = H; which <= N; which++) {
            Bound.due("took " + which, x.took(3, which), Bound.NONE);
        }
        Bound.due("runs", x.runs(3, 0), Bound.NONE);
        int old = Check.list(x, 1, 500, 1, 0, false);
        dueAsk(x, 3, L, old, Bound.NONE);
        Check.text(x, 3, "R");
        Bound.due("its text changes behind it", x.ask(3, 0), Bound.NONE);
        dueAsk(x, 3, L, Bound.NONE, 1);
    }

    private static void machineBad() {
        Bound.of(23, "BAD");
        SignedPages x = Bound.world();
        Bound.begin(x, 0, "L");
        for (int m : Bound.outside(0, 3)) {
            Bound.refused(x, "machine " + m, Bound.BAD, () -> x.machine(m, 3, 0));
        }
        for (int t : Bound.outside(0, 3)) {
            Bound.refused(x, "text " + t, Bound.BAD, () -> x.machine(0, t, 0));
        }
        for (int p : new int[] {-1, 5, Bound.NONE, 40, Bound.MIN, Bound.MAX}) {
            Bound.refused(x, "page " + p, Bound.BAD, () -> x.machine(0, 3, p));
        }
        SignedPages y = Bound.world();
        y.text(0, 0);
        Bound.refused(y, "machine ahead of STATE", Bound.BAD, () -> y.machine(4, 0, 0));
        Bound.refused(y, "machine ahead of UNLIKE", Bound.BAD, () -> y.machine(4, 0, 1));
        Bound.refused(y, "page ahead of NOTHING", Bound.BAD, () -> y.machine(0, 1, 5));
        Bound.refused(y, "page ahead of STATE", Bound.BAD, () -> y.machine(0, 0, 5));
        Bound.refused(y, "text ahead of UNLIKE", Bound.BAD, () -> y.machine(0, 4, 1));
    }

    private static void machineNothing() {
        Bound.of(23, "NOTHING: the TEXT");
        SignedPages x = Bound.world();
        Bound.found(x, "missing", Bound.NOTHING, () -> x.machine(0, 0, Bound.ROOT));
        Bound.found(x, "ahead of UNLIKE", Bound.NOTHING, () -> x.machine(0, 3, Bound.LIST));
    }

    private static void machineUnlike() {
        Bound.of(23, "UNLIKE: no ROOT");
        SignedPages x = Bound.world();
        int note = x.note(1, 1);
        Bound.begin(x, 1, "L");
        x.text(0, 0);
        for (int p : new int[] {note, Bound.LIST, Bound.LENT, Bound.TOGETHER, Bound.HOUR}) {
            Bound.found(x, "page " + p, Bound.UNLIKE, () -> x.machine(1, 3, p));
            Bound.found(x, "page " + p + ", ahead of STATE", Bound.UNLIKE, () -> x.machine(1, 0, p));
        }
    }

    private static void machineState() {
        Bound.of(23, "STATE: a FAULT. (STATE last.)");
        SignedPages x = Bound.world();
        Bound.begin(x, 0, "Lo");
        x.ask(0, 0);
        for (String letters : new String[] {"", " ", "LL", "o", "Loo", "Rx"}) {
            Check.text(x, 0, letters);
            Bound.refused(x, "'" + letters + "'", Bound.STATE, () -> x.machine(0, 0, Bound.ROOT));
            Bound.refused(x, "'" + letters + "', a missing machine", Bound.STATE, () -> x.machine(1, 0, Bound.ROOT));
        }
        Bound.due("the one that was begun has what it took", x.took(0, L), Bound.LIST);
        int old = Check.list(x, 4, 500, 1, 0, false);
        dueAsk(x, 0, L, old, 5);
        Bound.due("machines", x.count(4), 1);
    }

    private static void ask() {
        Bound.of(24, "A MACHINE is ASKED with a ROW of copies: NONE: it took all; else 10 times the step (0 the first) and WHY.");
        SignedPages x = Bound.world();
        Bound.begin(x, 0, "RHTLN");
        Bound.due("all", x.ask(0, 0), Bound.NONE);
        dueAsk(x, 0, N, Bound.ROOT, 42);
        dueAsk(x, 0, H, Bound.NONE, 11);
        Bound.begin(x, 3, "LR");
        dueAsk(x, 3, L, Bound.NONE, 1);
        int other = Check.root(x, 1, 500, 1, Bound.KEY_0);
        x.lay(0, R, other);
        dueAsk(x, 3, L, Bound.LIST, 15);
        Bound.begin(x, 1, "HTLNR");
        int[] copies = {other, Bound.HOUR, Bound.TOGETHER, Bound.LIST, Bound.LENT};
        Check.row(x, 5, copies);
        Bound.due("the greatest: the last step, number", x.ask(1, 5), 45);
        int bare = Check.signed(x, x.together(5, 500, Bound.LIST, Bound.NONE), 1);
        int hour = Check.signed(x, x.hour(5, 500, bare), 1);
        Check.row(x, 5, Bound.NONE, hour, bare, Bound.LIST, Bound.LENT);
        Bound.begin(x, 2, "RHTLN");
        Bound.due("the greatest of all: the last step, not named", x.ask(2, 5), 46);
    }

    private static void askBad() {
        Bound.of(24, "BAD");
        SignedPages x = Bound.world();
        Bound.begin(x, 0, "L");
        Bound.begin(x, 3, "L");
        for (int m : Bound.outside(0, 3)) {
            Bound.refused(x, "machine " + m, Bound.BAD, () -> x.ask(m, 0));
            Bound.refused(x, "machine " + m + ", ahead of NOTHING", Bound.BAD, () -> x.ask(m, 1));
        }
        for (int r : Bound.outside(0, 5)) {
            Bound.refused(x, "row " + r, Bound.BAD, () -> x.ask(0, r));
            Bound.refused(x, "row " + r + ", ahead of NOTHING", Bound.BAD, () -> x.ask(1, r));
        }
    }

    private static void askNothing() {
        Bound.of(24, "NOTHING: either");
        SignedPages x = Bound.world();
        Bound.found(x, "no machine", Bound.NOTHING, () -> x.ask(0, 0));
        x.row(1, 4);
        Bound.found(x, "no machine, ahead of SIZE", Bound.NOTHING, () -> x.ask(0, 1));
        Check.row(x, 2, 99, 99, 99, 99, 99);
        Bound.found(x, "no machine, ahead of UNLIKE", Bound.NOTHING, () -> x.ask(0, 2));
        Bound.found(x, "neither: counted once", Bound.NOTHING, () -> x.ask(0, 3));
        Bound.begin(x, 0, "L");
        Bound.found(x, "no row", Bound.NOTHING, () -> x.ask(0, 3));
        x.tear(0);
        Bound.found(x, "a torn row", Bound.NOTHING, () -> x.ask(0, 0));
    }

    private static void askSize() {
        Bound.of(24, "SIZE: not five");
        SignedPages x = Bound.world();
        Bound.begin(x, 0, "L");
        for (int n : new int[] {0, 1, 4, 6, 10, 40}) {
            x.row(1, n);
            Bound.found(x, "a row of " + n, Bound.SIZE, () -> x.ask(0, 1));
        }
        Check.row(x, 1, 99, 99, 99, 99);
        Bound.found(x, "ahead of UNLIKE", Bound.SIZE, () -> x.ask(0, 1));
    }

    private static void askUnlike() {
        Bound.of(24, "UNLIKE: a number that is neither NONE nor a PAGE.");
        for (int place = 0; place < 5; place++) {
            SignedPages x = Bound.world();
            int i = place;
            Bound.begin(x, 0, "L");
            Bound.begin(x, 1, "RHTLN");
            for (int copy : new int[] {-1, 5, 40, -8, -10, Bound.MIN, Bound.MAX}) {
                x.lay(0, i, copy);
                Bound.found(x, copy + " at place " + i, Bound.UNLIKE, () -> x.ask(1, 0));
                Bound.found(x, copy + " at place " + i + ", perhaps not asked for", Bound.UNLIKE, () -> x.ask(0, 0));
            }
            x.lay(0, i, 4);
            Bound.due("the last page is one", x.ask(1, 0) == SignedPages.FINDING ? 1 : 0, 0);
        }
        SignedPages y = Bound.world();
        Bound.begin(y, 0, "L");
        y.row(1, 6);
        y.lay(1, 5, 99);
        Check.row(y, 1, Bound.ROOT, Bound.HOUR, Bound.TOGETHER, Bound.LIST, Bound.LENT);
        Bound.due("what a longer row had behind is not looked at", y.ask(0, 1), Bound.NONE);
        Bound.due("nor by reached", y.reached(1), 1);
    }

    private static void offer() {
        Bound.of(25, "A FILE is OFFERED: NONE: it RUNS; else WHY.");
        SignedPages x = Bound.world();
        Bound.begin(x, 3, "L");
        Bound.due("no L yet", x.offer(3, 0, 10), 7);
        x.ask(3, 0);
        Bound.due("another SUM", x.offer(3, 0, 999), 8);
        Bound.due("not told", x.offer(3, 9, 0), 7);
        Bound.due("it runs", x.offer(3, 0, 10), Bound.NONE);
        Bound.due("once more", x.offer(3, 0, 10), Bound.NONE);
        Bound.due("what it runs", x.runs(3, 0), 10);
        Bound.due("and nothing else", x.runs(3, 9), Bound.NONE);
    }

    private static void offerBad() {
        Bound.of(25, "BAD");
        SignedPages x = Bound.world();
        Bound.begin(x, 0, "R");
        for (int m : Bound.outside(0, 3)) {
            Bound.refused(x, "machine " + m, Bound.BAD, () -> x.offer(m, 0, 0));
        }
        for (int file : Bound.outside(0, 9)) {
            Bound.refused(x, "file " + file, Bound.BAD, () -> x.offer(0, file, 0));
        }
        for (int sum : Bound.outside(0, 999)) {
            Bound.refused(x, "sum " + sum, Bound.BAD, () -> x.offer(0, 0, sum));
        }
        Bound.refused(x, "file ahead of NOTHING", Bound.BAD, () -> x.offer(1, 10, 0));
        Bound.refused(x, "sum ahead of NOTHING", Bound.BAD, () -> x.offer(1, 0, 1000));
    }

    private static void offerNothing() {
        Bound.of(25, "NOTHING.");
        SignedPages x = Bound.world();
        for (int m = 0; m <= 3; m++) {
            int machine = m;
            Bound.found(x, "machine " + m, Bound.NOTHING, () -> x.offer(machine, 0, 10));
        }
    }

    private static void runs() {
        Bound.of(26, "The SUM of a FILE that a MACHINE RUNS; NONE: none.");
        SignedPages x = Bound.world();
        Bound.begin(x, 0, "R");
        x.offer(0, 0, 0);
        x.offer(0, 9, 999);
        Bound.due("a SUM of 0", x.runs(0, 0), 0);
        Bound.due("a SUM of 999", x.runs(0, 9), 999);
        for (int file = 1; file <= 8; file++) {
            Bound.due("file " + file, x.runs(0, file), Bound.NONE);
        }
        x.offer(0, 9, 998);
        Bound.due("the one offered last", x.runs(0, 9), 998);
    }

    private static void runsBad() {
        Bound.of(26, "BAD");
        SignedPages x = Bound.world();
        Bound.begin(x, 0, "R");
        for (int m : Bound.outside(0, 3)) {
            Bound.refused(x, "machine " + m, Bound.BAD, () -> x.runs(m, 0));
        }
        for (int file : Bound.outside(0, 9)) {
            Bound.refused(x, "file " + file, Bound.BAD, () -> x.runs(0, file));
            Bound.refused(x, "file " + file + ", ahead of NOTHING", Bound.BAD, () -> x.runs(1, file));
        }
    }

    private static void runsNothing() {
        Bound.of(26, "NOTHING.");
        SignedPages x = Bound.world();
        for (int m = 0; m <= 3; m++) {
            int machine = m;
            Bound.found(x, "machine " + m, Bound.NOTHING, () -> x.runs(machine, 9));
        }
    }

    private static void took() {
        Bound.of(27, "The PAGE that a MACHINE took last for R (its ROOT), H, T, L, N (0 .. 4); NONE.");
        SignedPages x = Bound.world();
        Bound.begin(x, 0, "HTLN");
        int[] pages = {Bound.ROOT, Bound.HOUR, Bound.TOGETHER, Bound.LIST, Bound.LENT};
        for (int which = R; which <= N; which++) {
            Bound.due("at first " + which, x.took(0, which), which == R ? Bound.ROOT : Bound.NONE);
        }
        x.ask(0, 0);
        for (int which = R; which <= N; which++) {
            Bound.due("then " + which, x.took(0, which), pages[which]);
        }
        int lent = Check.list(x, 5, 500, 1, 0, true);
        dueAsk(x, 0, N, lent, 36);
        Bound.due("one that is refused is not taken", x.took(0, N), Bound.LENT);
        Bound.begin(x, 1, "N");
        dueAsk(x, 1, N, Bound.LENT, Bound.NONE);
        dueAsk(x, 1, N, lent, Bound.NONE);
        Bound.due("the last one", x.took(1, N), lent);
    }

    private static void tookBad() {
        Bound.of(27, "BAD");
        SignedPages x = Bound.world();
        Bound.begin(x, 0, "R");
        for (int m : Bound.outside(0, 3)) {
            Bound.refused(x, "machine " + m, Bound.BAD, () -> x.took(m, 0));
        }
        for (int which : Bound.outside(0, 4)) {
            Bound.refused(x, "which " + which, Bound.BAD, () -> x.took(0, which));
            Bound.refused(x, "which " + which + ", ahead of NOTHING", Bound.BAD, () -> x.took(1, which));
        }
    }

    private static void tookNothing() {
        Bound.of(27, "NOTHING.");
        SignedPages x = Bound.world();
        for (int m = 0; m <= 3; m++) {
            int machine = m;
            Bound.found(x, "machine " + m, Bound.NOTHING, () -> x.took(machine, 4));
        }
    }

    private static void walk() {
        Bound.of(28, "A MACHINE walks a CHAIN from its ROOT: how many ROOTS it went on.");
        SignedPages alone = new SignedPages();
        Check.root(alone, 99, 0, 1, Bound.KEY_0);
        Check.root(alone, 1, 0, 1, Bound.KEY_0);
        Bound.begin(alone, 0, "L");
        Bound.due("a chain of one", alone.walk(0), 0);
        Bound.due("its ROOT", alone.took(0, R), 0);
        SignedPages x = new SignedPages();
        Check.row(x, 0, Bound.KEY_0);
        for (int p = 0; p < 40; p++) {
            Check.signed(x, x.root(1 + p, 0, 0), 1);
        }
        Bound.begin(x, 0, "Ld");
        Bound.begin(x, 3, "R");
        x.later(999);
        Bound.due("a chain of forty, whatever the day", x.walk(0), 39);
        Bound.due("its ROOT", x.took(0, R), 39);
        Bound.due("at its end", x.walk(0), 0);
        for (int p = 0; p < 40; p++) {
            Bound.due("who has root " + p, x.whoHas(p), p == 0 ? 9 : 1);
        }
    }

    private static void walkBad() {
        Bound.of(28, "BAD");
        SignedPages x = Bound.world();
        Check.root(x, 2, 1, 1, Bound.KEY_0);
        for (int m = 0; m <= 3; m++) {
            Bound.begin(x, m, "R");
        }
        for (int m : Bound.outside(0, 3)) {
            Bound.refused(x, "machine " + m, Bound.BAD, () -> x.walk(m));
        }
    }

    private static void walkNothing() {
        Bound.of(28, "NOTHING.");
        SignedPages x = Bound.world();
        Check.root(x, 2, 1, 1, Bound.KEY_0);
        for (int m = 0; m <= 3; m++) {
            int machine = m;
            Bound.found(x, "machine " + m, Bound.NOTHING, () -> x.walk(machine));
        }
    }

    private static void whoHas() {
        Bound.of(29, "MACHINES that took a PAGE ever (bits).");
        SignedPages x = Bound.world();
        Bound.due("none", x.whoHas(Bound.ROOT), 0);
        for (int m = 0; m <= 3; m++) {
            Bound.begin(x, m, "L");
            Bound.due("machine " + m + ", too", x.whoHas(Bound.ROOT), (2 << m) - 1);
        }
        x.lay(0, L, Bound.LENT);
        x.ask(0, 0);
        Bound.due("refused, not taken", x.whoHas(Bound.LENT), 0);
        x.reached(0);
        Bound.due("reached, not taken", x.whoHas(Bound.LIST), 0);
    }

    private static void whoHasBad() {
        Bound.of(29, "BAD.");
        SignedPages x = Bound.world();
        Bound.begin(x, 0, "L");
        for (int p : new int[] {-1, 5, Bound.NONE, 40, Bound.MIN, Bound.MAX}) {
            Bound.refused(x, "page " + p, Bound.BAD, () -> x.whoHas(p));
        }
        SignedPages y = new SignedPages();
        Bound.refused(y, "no page at all", Bound.BAD, () -> y.whoHas(0));
    }

    private static void reached() {
        Bound.of(30, "MACHINES that are REACHED by a ROW of copies (bits; nothing is taken).");
        SignedPages x = Bound.world();
        Bound.due("no machines", x.reached(0), 0);
        for (int m = 0; m <= 3; m++) {
            Bound.begin(x, m, "RHTLNod".substring(0, 4 + m));
        }
        long before = x.digest();
        Bound.due("all", x.reached(0), 15);
        x.lay(0, N, Bound.NONE);
        Bound.due("the first alone asks no N", x.reached(0), 1);
        x.lay(0, H, Bound.NONE);
        Bound.due("none", x.reached(0), 0);
        x.lay(0, H, Bound.HOUR);
        x.lay(0, N, Bound.LENT);
        Bound.due("nothing is taken, no refusal counted", x.digest(), before);
        Bound.begin(x, 0, "TH");
        Bound.due("one that would take it only when asked again", x.reached(0), 14);
    }

    private static void reachedBad() {
        Bound.of(30, "BAD");
        SignedPages x = Bound.world();
        Bound.begin(x, 0, "L");
        for (int r : Bound.outside(0, 5)) {
            Bound.refused(x, "row " + r, Bound.BAD, () -> x.reached(r));
        }
    }

    private static void reachedNothing() {
        Bound.of(30, "NOTHING");
        SignedPages x = Bound.world();
        Bound.found(x, "missing", Bound.NOTHING, () -> x.reached(1));
        x.tear(0);
        Bound.found(x, "torn", Bound.NOTHING, () -> x.reached(0));
    }

    private static void reachedSize() {
        Bound.of(30, "SIZE");
        SignedPages x = Bound.world();
        for (int n : new int[] {0, 4, 6, 40}) {
            x.row(1, n);
            Bound.found(x, "a row of " + n, Bound.SIZE, () -> x.reached(1));
        }
        Check.row(x, 1, 99, 99, 99, 99);
        Bound.found(x, "ahead of UNLIKE", Bound.SIZE, () -> x.reached(1));
    }

    private static void reachedUnlike() {
        Bound.of(30, "UNLIKE.");
        for (int place = 0; place < 5; place++) {
            SignedPages x = Bound.world();
            for (int copy : new int[] {-1, 5, 40, -8, -10, Bound.MIN, Bound.MAX}) {
                x.lay(0, place, copy);
                Bound.found(x, copy + " at place " + place, Bound.UNLIKE, () -> x.reached(0));
            }
        }
    }

    private static void refused() {
        Bound.of(31, "How many REFUSALS at a step (0 .. 4) for a WHY (1 .. 6) there were, of all MACHINES.");
        SignedPages x = Bound.world();
        Bound.begin(x, 0, "RHTLN");
        Bound.begin(x, 3, "RHTLN");
        for (int step = 0; step <= 4; step++) {
            for (int why = 1; why <= 6; why++) {
                Bound.due("at first refused(" + step + ", " + why + ")", x.refused(step, why), 0);
            }
        }
        dueAsk(x, 0, N, Bound.NONE, 41);
        dueAsk(x, 3, N, Bound.NONE, 41);
        Bound.due("of both machines", x.refused(4, 1), 2);
        dueAsk(x, 0, R, Bound.LIST, 2);
        Bound.due("at the first step", x.refused(0, 2), 1);
        int like = Check.root(x, 1, 500, 1, Bound.KEY_0);
        dueAsk(x, 3, R, like, 5);
        Bound.due("at the first step, for 5", x.refused(0, 5), 1);
        x.lay(0, R, Bound.NONE);
        int lent = Check.list(x, 5, 500, 1, 0, true);
        dueAsk(x, 3, N, lent, 46);
        Bound.due("at the last step, for 6", x.refused(4, 6), 1);
    }

    private static void refusedBad() {
        Bound.of(31, "BAD.");
        SignedPages x = Bound.world();
        for (int step : Bound.outside(0, 4)) {
            Bound.refused(x, "step " + step, Bound.BAD, () -> x.refused(step, 1));
        }
        for (int why : Bound.outside(1, 6)) {
            Bound.refused(x, "why " + why, Bound.BAD, () -> x.refused(0, why));
        }
        Bound.refused(x, "why 8", Bound.BAD, () -> x.refused(0, 8));
    }

    private static void noisy() {
        Bound.of(32, "REFUSALS of a WHY (1 .. 6) by steps, TOLD with noise by a ROW of five: they come to a ROW (anew): their sum.");
        SignedPages x = Bound.world();
        Bound.begin(x, 0, "RHTLN");
        dueAsk(x, 0, R, Bound.LIST, 2);
        dueAsk(x, 0, R, Bound.NONE, Bound.NONE);
        dueAsk(x, 0, H, Bound.NONE, 11);
        dueAsk(x, 0, H, Bound.HOUR, Bound.NONE);
        dueAsk(x, 0, N, Bound.NONE, 41);
        dueAsk(x, 0, N, Bound.NONE, 41);
        x.row(1, 5);
        int[][] rows = {{0, 1, 0, 0, 2}, {1, 0, 0, 0, 0}, {0, 0, 0, 0, 0}, {0, 0, 0, 0, 0}, {0, 0, 0, 0, 0}, {0, 0, 0, 0, 0}};
        int[] sums = {3, 1, 0, 0, 0, 0};
        for (int why = 1; why <= 6; why++) {
            Bound.due("why " + why, x.noisy(why, 1, 5), sums[why - 1]);
            Bound.dueRow(x, 5, rows[why - 1]);
        }
        Check.row(x, 1, 99, 99, 99, 99, 99);
        Bound.due("the greatest noise", x.noisy(1, 1, 5), 498);
        Check.row(x, 1, -99, -99, -99, -99, -99);
        Bound.due("the least noise", x.noisy(1, 1, 5), 0);
        Bound.due("the counts stay", x.refused(4, 1), 2);
    }

    private static void noisyAnew() {
        Bound.of(32, "they come to a ROW (anew)");
        SignedPages x = new SignedPages();
        Check.row(x, 0, 1, 2, 3, 4, 5);
        Bound.due("to a missing row", x.noisy(1, 0, 1), 15);
        Bound.dueRow(x, 1, 1, 2, 3, 4, 5);
        x.row(1, 40);
        Bound.due("to a longer row", x.noisy(1, 0, 1), 15);
        Bound.dueRow(x, 1, 1, 2, 3, 4, 5);
        x.row(1, 0);
        Bound.due("to an empty row", x.noisy(1, 0, 1), 15);
        Bound.dueRow(x, 1, 1, 2, 3, 4, 5);
        Bound.dueRow(x, 0, 1, 2, 3, 4, 5);
        x.lay(0, 2, -3);
        Bound.due("to the row of the noise itself", x.noisy(1, 0, 0), 12);
        Bound.dueRow(x, 0, 1, 2, 0, 4, 5);
    }

    private static void noisyBad() {
        Bound.of(32, "BAD");
        SignedPages x = new SignedPages();
        x.row(0, 5);
        for (int why : Bound.outside(1, 6)) {
            Bound.refused(x, "why " + why, Bound.BAD, () -> x.noisy(why, 0, 1));
        }
        for (int r : Bound.outside(0, 5)) {
            Bound.refused(x, "noise by row " + r, Bound.BAD, () -> x.noisy(1, r, 1));
            Bound.refused(x, "to row " + r, Bound.BAD, () -> x.noisy(1, 0, r));
        }
        Bound.refused(x, "why ahead of NOTHING", Bound.BAD, () -> x.noisy(0, 1, 1));
        Bound.refused(x, "to, ahead of NOTHING", Bound.BAD, () -> x.noisy(1, 1, 6));
    }

    private static void noisyNothing() {
        Bound.of(32, "NOTHING");
        SignedPages x = new SignedPages();
        x.row(0, 5);
        Bound.found(x, "no noise", Bound.NOTHING, () -> x.noisy(1, 1, 0));
        Bound.found(x, "no noise to itself", Bound.NOTHING, () -> x.noisy(1, 1, 1));
        x.tear(0);
        Bound.found(x, "torn", Bound.NOTHING, () -> x.noisy(1, 0, 1));
    }

    private static void noisySize() {
        Bound.of(32, "SIZE");
        SignedPages x = new SignedPages();
        for (int n : new int[] {0, 4, 6, 40}) {
            x.row(0, n);
            Bound.found(x, "noise by a row of " + n, Bound.SIZE, () -> x.noisy(1, 0, 1));
        }
        Check.row(x, 0, 100, 100, 100, 100);
        Bound.found(x, "ahead of UNLIKE", Bound.SIZE, () -> x.noisy(1, 0, 0));
    }

    private static void noisyUnlike() {
        Bound.of(32, "UNLIKE: a number not -99 .. 99.");
        for (int place = 0; place < 5; place++) {
            SignedPages x = new SignedPages();
            x.row(0, 5);
            for (int noise : Bound.outside(-99, 99)) {
                x.lay(0, place, noise);
                Bound.found(x, noise + " at place " + place, Bound.UNLIKE, () -> x.noisy(1, 0, 1));
                Bound.found(x, noise + " at place " + place + ", to itself", Bound.UNLIKE, () -> x.noisy(1, 0, 0));
            }
            x.lay(0, place, -99);
            Bound.due("-99", x.noisy(1, 0, 1), 0);
            x.lay(0, place, 99);
            Bound.due("99", x.noisy(1, 0, 1), 99);
        }
        SignedPages y = new SignedPages();
        y.row(0, 6);
        y.lay(0, 5, 100);
        y.row(0, 5);
        Bound.due("what a longer row had behind is not looked at", y.noisy(1, 0, 1), 0);
    }
}
