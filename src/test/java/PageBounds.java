/** Boundaries of promises 11 to 21, and of the Terms on pages, keys, files and chains. */
final class PageBounds {
    private static final int[] LEAST_HEAD = {1, 0}, MOST_HEAD = {99, 999};
    private static final int[][] WRONG_HEADS = {
        {0, 0}, {100, 0}, {-1, 0}, {Bound.MIN, 0}, {Bound.MAX, 0}, {1, -1}, {1, 1000}, {1, Bound.MIN}, {1, Bound.MAX}, {0, 1000},
    };

    private PageBounds() {
    }

    static void all() {
        termsKeys();
        termsFiles();
        termsRoles();
        termsForty();
        termsKinds();
        termsHeads();
        termsGood();
        termsNoteNever();
        termsChain();
        notes();
        noteFull();
        roots();
        rootBad();
        rootFull();
        rootNothing();
        rootSize();
        rootUnlike();
        lists();
        listBad();
        listFull();
        listNothing();
        listSize();
        listUnlike();
        togethers();
        togetherBad();
        togetherFull();
        togetherUnlike();
        hours();
        hourBad();
        hourFull();
        hourUnlike();
        sign();
        signBad();
        told();
        toldBad();
        mark();
        markBad();
        markUnlike();
        good();
        goodBad();
        goodUnlike();
        sumOf();
        sumOfBad();
        sumOfUnlike();
        chain();
        chainBad();
        chainUnlike();
    }

    /** A page of each KIND at its own number: 0 a note, 1 ROOT, 2 LIST, 3 LENT, 4 TOGETHER, 5 HOUR. */
    private static SignedPages oneOfEachKind() {
        SignedPages x = new SignedPages();
        x.note(1, 1);
        Check.root(x, 1, 1, 0, Bound.ONE_EACH);
        Check.list(x, 1, 1, 0, 1, false, 3, 900, 4, 5);
        Check.list(x, 1, 1, 0, 0, true, 3, 9, 4, 50, 5, 6);
        x.together(1, 1, 2, 3);
        x.hour(1, 1, 4);
        return x;
    }

    private static int make(SignedPages x, int kind, int number, int till) {
        switch (kind) {
            case 0:
                return x.note(number, till);
            case 1:
                Check.row(x, 0, Bound.ONE_EACH);
                return x.root(number, till, 0);
            case 4:
                return x.together(number, till, 2, 3);
            case 5:
                return x.hour(number, till, 4);
            default:
                x.row(0, 0);
                return x.list(number, till, 0, 0, kind == 3);
        }
    }

    private static void dirty(SignedPages x, int r) {
        x.row(r, 40);
        for (int i = 0; i < 40; i++) {
            x.lay(r, i, Bound.MAX);
        }
    }

    private static void termsKeys() {
        Bound.of(Bound.TERMS, "KEYS 0 .. 9");
        SignedPages x = oneOfEachKind();
        Bound.due("by key 0", x.sign(0, 1), 1);
        Bound.due("by key 9", x.sign(0, 512), 2);
        Bound.due("by all ten", x.sign(0, 1023), 10);
        Bound.refused(x, "key 10", Bound.BAD, () -> x.sign(1, 1024));
        Bound.refused(x, "key 31", Bound.BAD, () -> x.sign(1, Bound.MIN));
    }

    private static void termsFiles() {
        Bound.of(Bound.TERMS, "FILES 0 .. 9, each with a SUM 0 .. 999.");
        SignedPages x = new SignedPages();
        int page = Check.list(x, 1, 1, 0, 0, false, 0, 999, 9, 0);
        Bound.due("file 0", x.sumOf(page, 0), 999);
        Bound.due("file 9", x.sumOf(page, 9), 0);
        int[][] wrong = {{-1, 0}, {10, 0}, {0, -1}, {0, 1000}};
        for (int[] pair : wrong) {
            Check.row(x, 0, pair);
            Bound.found(x, "file " + pair[0] + " sum " + pair[1], Bound.UNLIKE, () -> x.list(1, 1, 0, 0, false));
        }
    }

    private static void termsRoles() {
        Bound.of(Bound.TERMS, "ROLES: 0 ROOT, 1 HOUR, 2 TOGETHER, 3 LIST, 4 LENT.");
        int[] roleOfKind = {-1, 0, 3, 4, 2, 1};
        for (int kind = 0; kind <= 5; kind++) {
            for (int role = 0; role <= 4; role++) {
                SignedPages x = oneOfEachKind();
                x.sign(kind, 1 << role);
                Bound.due("kind " + kind + " by the key of role " + role, x.good(kind, 1), roleOfKind[kind] == role ? 1 : 0);
            }
        }
    }

    private static void termsForty() {
        Bound.of(Bound.TERMS, "PAGES 0, 1, .. (40 at most ever)");
        for (int kind = 0; kind <= 5; kind++) {
            SignedPages x = oneOfEachKind();
            for (int p = 6; p < 40; p++) {
                Bound.due("page " + p, x.note(1, 1), p);
            }
            Bound.due("a page 40 of kind " + kind, make(x, kind, 1, 1), Bound.FULL);
            Bound.due("pages", x.count(1), 40);
            Bound.refused(x, "there is no page 40", Bound.BAD, () -> x.told(40, 0));
            Bound.due("there is a page 39", x.told(39, 0), 1);
        }
    }

    private static void termsKinds() {
        Bound.of(Bound.TERMS, "are of a KIND: 0 PAGE (a note), 1 ROOT (a PAGE: of each ROLE KEYS, and how MANY of these are to sign), "
            + "2 LIST (a PAGE: FILES with SUMS; and FILES that it LENDS), 3 LENT (a LIST: that LENDS none), "
            + "4 TOGETHER (a PAGE: names a LIST and perhaps a LENT one), 5 HOUR (a PAGE: names a TOGETHER one).");
        SignedPages x = oneOfEachKind();
        for (int p = 0; p <= 5; p++) {
            x.told(p, 0);
            Bound.due("kind of page " + p, x.asked(), p);
        }
        Bound.refused(x, "a LENT page that lends", Bound.BAD, () -> x.list(1, 1, 5, 1, true));
        Bound.due("a TOGETHER page without a LENT one", x.together(1, 1, 2, Bound.NONE), 6);
    }

    private static void termsHeads() {
        Bound.of(Bound.TERMS, "Each has a NUMBER (1 .. 99), a last DAY (0 .. 999), and is SIGNED by KEYS.");
        for (int kind = 0; kind <= 5; kind++) {
            SignedPages x = oneOfEachKind();
            int[][] heads = {LEAST_HEAD, MOST_HEAD};
            for (int[] head : heads) {
                int page = make(x, kind, head[0], head[1]);
                dueTold(x, page, kind, head[0], head[1], 0);
                x.sign(page, 513);
                dueTold(x, page, kind, head[0], head[1], 513);
            }
            int pages = x.count(1);
            for (int[] head : WRONG_HEADS) {
                Bound.due("kind " + kind + " by " + head[0] + ", " + head[1], make(x, kind, head[0], head[1]), Bound.BAD);
            }
            Bound.due("pages", x.count(1), pages);
        }
    }

    private static void dueTold(SignedPages x, int page, int... facts) {
        for (int what = 0; what < 4; what++) {
            Bound.due("told(" + page + ", " + what + ")", x.told(page, what), 1);
            Bound.due("what told(" + page + ", " + what + ") is", x.asked(), facts[what]);
        }
    }

    private static void termsGood() {
        Bound.of(Bound.TERMS, "A PAGE is GOOD by a ROOT, if of the KEYS of its ROLE (LIST: 3, LENT: 4) as MANY at least SIGNED it.");
        int[] roleOfKind = {-1, 0, 3, 4, 2, 1};
        int[] shared = {7, 2, 56, 2, 7, 3, 960, 3, 1023, 10};
        for (int kind = 1; kind <= 5; kind++) {
            SignedPages x = oneOfEachKind();
            int root = Check.root(x, 1, 1, 0, shared);
            int keys = shared[2 * roleOfKind[kind]];
            int many = shared[2 * roleOfKind[kind] + 1];
            x.sign(kind, 1023 & ~keys);
            Bound.due("kind " + kind + " by all other keys", x.good(kind, root), 0);
            for (int by = 1; by <= Integer.bitCount(shared[2 * roleOfKind[kind]]); by++) {
                x.sign(kind, Integer.highestOneBit(keys));
                keys -= Integer.highestOneBit(keys);
                Bound.due("kind " + kind + " by " + by + " of " + many, x.good(kind, root), by >= many ? 1 : 0);
            }
        }
    }

    private static void termsNoteNever() {
        Bound.of(Bound.TERMS, "(KIND 0 never.)");
        SignedPages x = oneOfEachKind();
        x.sign(0, 1023);
        Bound.due("a note by all keys", x.good(0, 1), 0);
    }

    private static void termsChain() {
        Bound.of(Bound.TERMS, "A CHAIN from a ROOT: the next ROOT is the first PAGE that is a ROOT, has a NUMBER one more, and is GOOD by both; "
            + "again and again.");
        int[] byKey1 = {2, 1, 1, 1, 1, 1, 1, 1, 1, 1};
        SignedPages x = new SignedPages();
        int first = Check.root(x, 5, 1, 0, Bound.KEY_0);
        Check.signed(x, x.note(6, 1), 1023);
        Check.list(x, 6, 1, 1023, 0, false);
        Check.root(x, 5, 1, 1023, Bound.KEY_0);
        Check.root(x, 7, 1, 1, Bound.KEY_0);
        Check.root(x, 4, 1, 1, Bound.KEY_0);
        int byOld = Check.root(x, 6, 1, 1, byKey1);
        int byNew = Check.root(x, 6, 1, 2, byKey1);
        dueChain(x, first, 1, first);
        int late = Check.root(x, 6, 0, 3, byKey1);
        dueChain(x, first, 2, late);
        x.sign(byNew, 1);
        dueChain(x, first, 2, byNew);
        x.sign(byOld, 2);
        dueChain(x, first, 2, byOld);
        int last = Check.root(x, 7, 0, 2, byKey1);
        dueChain(x, first, 3, last);
    }

    private static void dueChain(SignedPages x, int from, int length, int last) {
        Bound.due("chain(" + from + ")", x.chain(from), length);
        Bound.due("its last one", x.asked(), last);
    }

    private static void notes() {
        Bound.of(11, "A note: the PAGE.");
        SignedPages x = new SignedPages();
        Bound.due("the least", x.note(1, 0), 0);
        Bound.due("the greatest", x.note(99, 999), 1);
        Bound.due("one like it", x.note(99, 999), 2);
        dueTold(x, 0, 0, 1, 0, 0);
        dueTold(x, 1, 0, 99, 999, 0);
        Bound.of(11, "BAD: NUMBER, DAY");
        for (int[] head : WRONG_HEADS) {
            Bound.refused(x, "note(" + head[0] + ", " + head[1] + ")", Bound.BAD, () -> x.note(head[0], head[1]));
        }
    }

    private static void noteFull() {
        Bound.of(11, "FULL.");
        SignedPages x = Bound.fullOfNotes();
        Bound.refused(x, "page 40", Bound.FULL, () -> x.note(1, 0));
        Bound.refused(x, "and again", Bound.FULL, () -> x.note(99, 999));
        Bound.refused(x, "BAD NUMBER ahead of FULL", Bound.BAD, () -> x.note(100, 0));
        Bound.refused(x, "BAD DAY ahead of FULL", Bound.BAD, () -> x.note(1, -1));
    }

    private static void roots() {
        Bound.of(12, "A ROOT by a ROW of ten (of each ROLE KEYS as bits 1 .. 1023, how MANY 1 .. as many): the PAGE.");
        SignedPages x = new SignedPages();
        int[][] rows = {Bound.KEY_0, {1023, 10, 1023, 10, 1023, 10, 1023, 10, 1023, 10}, {1023, 1, 512, 1, 3, 2, 513, 1, 7, 3}};
        int[] marks = {5, 50, 8};
        for (int i = 0; i < rows.length; i++) {
            Check.row(x, 5, rows[i]);
            Bound.due("root of row " + i, x.root(99, 999, 5), i);
            Bound.due("how many are to sign", x.mark(i, 1), marks[i]);
        }
        x.lay(5, 1, 3);
        Bound.due("it stays as it was made", x.mark(2, 1), 8);
        dirty(x, 4);
        Check.row(x, 4, Bound.KEY_0);
        Bound.due("what a longer row had behind is not looked at", x.root(1, 0, 4), 3);
        x.tear(5);
        Bound.due("without its row, too", x.mark(2, 1), 8);
    }

    private static void rootBad() {
        Bound.of(12, "BAD");
        SignedPages x = new SignedPages();
        Check.row(x, 0, Bound.KEY_0);
        for (int[] head : WRONG_HEADS) {
            Bound.refused(x, "root(" + head[0] + ", " + head[1] + ", 0)", Bound.BAD, () -> x.root(head[0], head[1], 0));
        }
        for (int r : Bound.outside(0, 5)) {
            Bound.refused(x, "row " + r, Bound.BAD, () -> x.root(1, 0, r));
        }
        Bound.refused(x, "NUMBER ahead of NOTHING", Bound.BAD, () -> x.root(0, 0, 1));
        Bound.refused(x, "DAY ahead of NOTHING", Bound.BAD, () -> x.root(1, 1000, 1));
    }

    private static void rootFull() {
        Bound.of(12, "FULL");
        SignedPages x = Bound.fullOfNotes();
        Check.row(x, 0, Bound.KEY_0);
        x.row(1, 9);
        x.row(2, 10);
        Bound.refused(x, "a right one", Bound.FULL, () -> x.root(1, 0, 0));
        Bound.refused(x, "ahead of NOTHING", Bound.FULL, () -> x.root(1, 0, 3));
        Bound.refused(x, "ahead of SIZE", Bound.FULL, () -> x.root(1, 0, 1));
        Bound.refused(x, "ahead of UNLIKE", Bound.FULL, () -> x.root(1, 0, 2));
        Bound.refused(x, "behind BAD: NUMBER", Bound.BAD, () -> x.root(0, 0, 0));
        Bound.refused(x, "behind BAD: DAY", Bound.BAD, () -> x.root(1, 1000, 0));
        Bound.refused(x, "behind BAD: row", Bound.BAD, () -> x.root(1, 0, 6));
    }

    private static void rootNothing() {
        Bound.of(12, "NOTHING");
        SignedPages x = new SignedPages();
        Bound.found(x, "missing at first", Bound.NOTHING, () -> x.root(1, 0, 5));
        Check.row(x, 5, Bound.KEY_0);
        x.tear(5);
        Bound.found(x, "torn", Bound.NOTHING, () -> x.root(1, 0, 5));
    }

    private static void rootSize() {
        Bound.of(12, "SIZE");
        for (int n : new int[] {0, 1, 5, 9, 11, 20, 40}) {
            SignedPages x = new SignedPages();
            x.row(0, n);
            Bound.found(x, "zeros, ahead of UNLIKE: " + n, Bound.SIZE, () -> x.root(1, 0, 0));
            for (int i = 0; i < n; i++) {
                x.lay(0, i, 1);
            }
            Bound.found(x, "places that would do: " + n, Bound.SIZE, () -> x.root(1, 0, 0));
        }
    }

    private static void rootUnlike() {
        Bound.of(12, "UNLIKE.");
        int[] plain = {7, 2, 8, 1, 24, 1, 96, 2, 128, 1};
        for (int role = 0; role < 5; role++) {
            int tooMany = Integer.bitCount(plain[2 * role]) + 1;
            int[][] wrong = {
                {0, 0}, {0, -1}, {0, 1024}, {0, 1024 + plain[2 * role]}, {0, Bound.MIN}, {0, Bound.MAX},
                {1, 0}, {1, -1}, {1, tooMany}, {1, 11}, {1, Bound.MIN}, {1, Bound.MAX},
            };
            for (int[] one : wrong) {
                SignedPages x = new SignedPages();
                Check.row(x, 0, plain);
                x.lay(0, 2 * role + one[0], one[1]);
                Bound.found(x, "place " + (2 * role + one[0]) + " is " + one[1], Bound.UNLIKE, () -> x.root(1, 0, 0));
            }
        }
        SignedPages x = new SignedPages();
        Check.row(x, 0, plain);
        Bound.due("all as due", x.root(1, 0, 0), 0);
    }

    private static void lists() {
        Bound.of(13, "A LIST (lent: LENT) by a ROW of pairs (FILE, SUM; no FILE twice, none may be there), "
            + "that LENDS (bits 0 .. 1023; LENT: 0): the PAGE.");
        SignedPages x = new SignedPages();
        x.row(0, 0);
        Bound.due("a list of none that lends none", x.list(1, 0, 0, 0, false), 0);
        Bound.due("a lent one of none", x.list(99, 999, 0, 0, true), 1);
        Bound.due("a list that lends all", x.list(1, 0, 0, 1023, false), 2);
        int[] all = new int[20];
        for (int file = 0; file < 10; file++) {
            all[2 * file] = 9 - file;
            all[2 * file + 1] = file == 0 ? 999 : file - 1;
        }
        Check.row(x, 5, all);
        Bound.due("a list of all files", x.list(1, 0, 5, 0, false), 3);
        Bound.due("a lent one of all files", x.list(1, 0, 5, 0, true), 4);
        dirty(x, 4);
        Check.row(x, 4, 0, 8, 9, 999);
        Bound.due("what a longer row had behind is not looked at", x.list(1, 0, 4, 0, false), 5);
        Bound.due("and not told", x.mark(5, 2), 2);
        int[] kinds = {2, 3, 2, 2, 3};
        int[] files = {0, 0, 0, 10, 10};
        x.tear(5);
        for (int p = 0; p < 5; p++) {
            dueTold(x, p, kinds[p], p == 1 ? 99 : 1, p == 1 ? 999 : 0, 0);
            Bound.due("how many files", x.mark(p, 2), files[p]);
            Bound.due("file 9", x.sumOf(p, 9), files[p] == 0 ? Bound.NONE : 999);
            Bound.due("file 0", x.sumOf(p, 0), files[p] == 0 ? Bound.NONE : 8);
        }
    }

    private static void listBad() {
        Bound.of(13, "BAD");
        for (boolean lent : new boolean[] {false, true}) {
            SignedPages x = new SignedPages();
            x.row(0, 0);
            for (int[] head : WRONG_HEADS) {
                Bound.refused(x, "list(" + head[0] + ", " + head[1] + ")", Bound.BAD, () -> x.list(head[0], head[1], 0, 0, lent));
            }
            for (int r : Bound.outside(0, 5)) {
                Bound.refused(x, "row " + r, Bound.BAD, () -> x.list(1, 0, r, 0, lent));
            }
            for (int lends : Bound.outside(0, 1023)) {
                Bound.refused(x, "lends " + lends, Bound.BAD, () -> x.list(1, 0, 0, lends, lent));
            }
            Bound.refused(x, "ahead of NOTHING", Bound.BAD, () -> x.list(1, 0, 1, 1024, lent));
        }
        SignedPages x = new SignedPages();
        x.row(0, 0);
        for (int lends : new int[] {1, 512, 1023}) {
            Bound.refused(x, "a lent one lends " + lends, Bound.BAD, () -> x.list(1, 0, 0, lends, true));
        }
        Bound.refused(x, "a lent one lends, ahead of NOTHING", Bound.BAD, () -> x.list(1, 0, 1, 1, true));
    }

    private static void listFull() {
        Bound.of(13, "FULL");
        SignedPages x = Bound.fullOfNotes();
        x.row(0, 0);
        x.row(1, 1);
        Check.row(x, 2, 10, 0);
        Bound.refused(x, "a list", Bound.FULL, () -> x.list(1, 0, 0, 0, false));
        Bound.refused(x, "a lent one", Bound.FULL, () -> x.list(1, 0, 0, 0, true));
        Bound.refused(x, "ahead of NOTHING", Bound.FULL, () -> x.list(1, 0, 3, 0, false));
        Bound.refused(x, "ahead of SIZE", Bound.FULL, () -> x.list(1, 0, 1, 0, false));
        Bound.refused(x, "ahead of UNLIKE", Bound.FULL, () -> x.list(1, 0, 2, 0, false));
        Bound.refused(x, "behind BAD: NUMBER", Bound.BAD, () -> x.list(0, 0, 0, 0, false));
        Bound.refused(x, "behind BAD: lends", Bound.BAD, () -> x.list(1, 0, 0, -1, false));
        Bound.refused(x, "behind BAD: a lent one lends", Bound.BAD, () -> x.list(1, 0, 0, 1, true));
    }

    private static void listNothing() {
        Bound.of(13, "NOTHING");
        SignedPages x = new SignedPages();
        Bound.found(x, "missing at first", Bound.NOTHING, () -> x.list(1, 0, 5, 0, false));
        x.row(5, 1);
        x.tear(5);
        Bound.found(x, "torn", Bound.NOTHING, () -> x.list(1, 0, 5, 0, true));
    }

    private static void listSize() {
        Bound.of(13, "SIZE: not by twos");
        for (int n : new int[] {1, 3, 19, 21, 39}) {
            SignedPages x = new SignedPages();
            x.row(0, n);
            Bound.found(x, "a list by " + n, Bound.SIZE, () -> x.list(1, 0, 0, 0, false));
            Bound.found(x, "a lent one by " + n, Bound.SIZE, () -> x.list(1, 0, 0, 0, true));
            x.lay(0, 0, 10);
            Bound.found(x, "ahead of UNLIKE by " + n, Bound.SIZE, () -> x.list(1, 0, 0, 0, false));
        }
    }

    private static void listUnlike() {
        Bound.of(13, "UNLIKE.");
        int[][] rows = {
            {-1, 0}, {10, 0}, {Bound.MIN, 0}, {Bound.MAX, 0}, {32, 0}, {0, -1}, {0, 1000}, {0, Bound.NONE}, {0, Bound.MIN}, {0, Bound.MAX},
            {3, 1, 3, 1}, {3, 1, 4, 1, 3, 2}, {9, 1, 9, 2}, {0, 0, 0, 0}, {3, 1, 10, 1}, {3, 1, 4, 1000}, new int[22], new int[40],
        };
        for (int[] row : rows) {
            for (boolean lent : new boolean[] {false, true}) {
                SignedPages x = new SignedPages();
                Check.row(x, 0, row);
                Bound.found(x, java.util.Arrays.toString(row), Bound.UNLIKE, () -> x.list(1, 0, 0, 0, lent));
            }
        }
    }

    private static void togethers() {
        Bound.of(14, "A TOGETHER one that names a LIST (KIND 2 itself) and a LENT one (NONE: none): the PAGE.");
        SignedPages x = oneOfEachKind();
        Bound.due("with a lent one", x.together(1, 0, 2, 3), 6);
        Bound.due("without", x.together(99, 999, 2, Bound.NONE), 7);
        dueTold(x, 6, 4, 1, 0, 0);
        dueTold(x, 7, 4, 99, 999, 0);
        Bound.due("its list", x.mark(7, 4), 2);
    }

    private static void togetherBad() {
        Bound.of(14, "BAD: also PAGES that there are not");
        SignedPages x = oneOfEachKind();
        for (int[] head : WRONG_HEADS) {
            Bound.refused(x, "together(" + head[0] + ", " + head[1] + ")", Bound.BAD, () -> x.together(head[0], head[1], 2, 3));
        }
        SignedPages y = oneOfEachKind();
        for (int page : new int[] {-1, 6, Bound.NONE, 40, Bound.MIN, Bound.MAX}) {
            Bound.refused(y, "list " + page, Bound.BAD, () -> y.together(1, 0, page, 3));
        }
        for (int page : new int[] {-1, 6, -8, -10, 40, Bound.MIN, Bound.MAX}) {
            Bound.refused(y, "lent " + page, Bound.BAD, () -> y.together(1, 0, 2, page));
        }
        Bound.refused(y, "list ahead of UNLIKE", Bound.BAD, () -> y.together(1, 0, 6, 2));
        Bound.refused(y, "lent ahead of UNLIKE", Bound.BAD, () -> y.together(1, 0, 3, 6));
        SignedPages z = new SignedPages();
        Bound.refused(z, "no pages at all", Bound.BAD, () -> z.together(1, 0, 0, Bound.NONE));
    }

    private static void togetherFull() {
        Bound.of(14, "FULL");
        SignedPages x = oneOfEachKind();
        Bound.addNotes(x);
        Bound.refused(x, "a right one", Bound.FULL, () -> x.together(1, 0, 2, 3));
        Bound.refused(x, "ahead of UNLIKE", Bound.FULL, () -> x.together(1, 0, 3, 2));
        Bound.refused(x, "behind BAD: list", Bound.BAD, () -> x.together(1, 0, 40, 3));
        Bound.refused(x, "behind BAD: lent", Bound.BAD, () -> x.together(1, 0, 2, 40));
        Bound.refused(x, "behind BAD: NUMBER", Bound.BAD, () -> x.together(0, 0, 2, 3));
    }

    private static void togetherUnlike() {
        Bound.of(14, "UNLIKE: KINDS.");
        for (int page = 0; page <= 5; page++) {
            int other = page;
            SignedPages x = oneOfEachKind();
            if (page != 2) {
                Bound.found(x, "list of kind " + page, Bound.UNLIKE, () -> x.together(1, 0, other, 3));
                Bound.found(x, "list of kind " + page + ", no lent one", Bound.UNLIKE, () -> x.together(1, 0, other, Bound.NONE));
            }
            if (page != 3) {
                Bound.found(x, "lent of kind " + page, Bound.UNLIKE, () -> x.together(1, 0, 2, other));
            }
        }
    }

    private static void hours() {
        Bound.of(15, "An HOUR that names a TOGETHER one: the PAGE.");
        SignedPages x = oneOfEachKind();
        Bound.due("the least", x.hour(1, 0, 4), 6);
        Bound.due("the greatest", x.hour(99, 999, 4), 7);
        dueTold(x, 6, 5, 1, 0, 0);
        dueTold(x, 7, 5, 99, 999, 0);
        Bound.due("the one that it names", x.mark(7, 5), 4);
    }

    private static void hourBad() {
        Bound.of(15, "BAD");
        SignedPages x = oneOfEachKind();
        for (int[] head : WRONG_HEADS) {
            Bound.refused(x, "hour(" + head[0] + ", " + head[1] + ")", Bound.BAD, () -> x.hour(head[0], head[1], 4));
        }
        for (int page : new int[] {-1, 6, Bound.NONE, 40, Bound.MIN, Bound.MAX}) {
            Bound.refused(x, "together " + page, Bound.BAD, () -> x.hour(1, 0, page));
        }
        Bound.refused(x, "NUMBER ahead of UNLIKE", Bound.BAD, () -> x.hour(0, 0, 0));
    }

    private static void hourFull() {
        Bound.of(15, "FULL");
        SignedPages x = oneOfEachKind();
        Bound.addNotes(x);
        Bound.refused(x, "a right one", Bound.FULL, () -> x.hour(1, 0, 4));
        Bound.refused(x, "ahead of UNLIKE", Bound.FULL, () -> x.hour(1, 0, 5));
        Bound.refused(x, "behind BAD: page", Bound.BAD, () -> x.hour(1, 0, 40));
        Bound.refused(x, "behind BAD: DAY", Bound.BAD, () -> x.hour(1, 1000, 4));
    }

    private static void hourUnlike() {
        Bound.of(15, "UNLIKE.");
        SignedPages x = oneOfEachKind();
        for (int page : new int[] {0, 1, 2, 3, 5}) {
            Bound.found(x, "a page of kind " + page, Bound.UNLIKE, () -> x.hour(1, 0, page));
        }
    }

    private static void sign() {
        Bound.of(16, "A PAGE is SIGNED by KEYS (bits) too: by how many then.");
        SignedPages x = oneOfEachKind();
        for (int page = 0; page <= 5; page++) {
            Bound.due("by none", x.sign(page, 0), 0);
            Bound.due("by the last key", x.sign(page, 512), 1);
            Bound.due("by the same one again", x.sign(page, 512), 1);
            Bound.due("by none more", x.sign(page, 0), 1);
            Bound.due("by two more", x.sign(page, 513 + 2), 3);
            Bound.due("by all", x.sign(page, 1023), 10);
            x.told(page, 3);
            Bound.due("all of them", x.asked(), 1023);
        }
    }

    private static void signBad() {
        Bound.of(16, "BAD.");
        SignedPages x = oneOfEachKind();
        for (int page : new int[] {-1, 6, Bound.NONE, 40, Bound.MIN, Bound.MAX}) {
            Bound.refused(x, "page " + page, Bound.BAD, () -> x.sign(page, 1));
        }
        for (int keys : Bound.outside(0, 1023)) {
            Bound.refused(x, "keys " + keys, Bound.BAD, () -> x.sign(0, keys));
        }
    }

    private static void told() {
        Bound.of(17, "Of a PAGE: 0 its KIND, 1 NUMBER, 2 DAY, 3 KEYS that SIGNED it (bits), told by asked(): 1.");
        SignedPages x = new SignedPages();
        x.note(1, 999);
        dueTold(x, 0, 0, 1, 999, 0);
        Check.root(x, 99, 0, 1023, Bound.KEY_0);
        dueTold(x, 1, 1, 99, 0, 1023);
    }

    private static void toldBad() {
        Bound.of(17, "BAD.");
        SignedPages x = oneOfEachKind();
        x.told(5, 0);
        for (int page : new int[] {-1, 6, Bound.NONE, 40, Bound.MIN, Bound.MAX}) {
            Bound.refused(x, "page " + page, Bound.BAD, () -> x.told(page, 0));
        }
        for (int what : Bound.outside(0, 3)) {
            Bound.refused(x, "what " + what, Bound.BAD, () -> x.told(0, what));
        }
    }

    private static void mark() {
        Bound.of(18, "What a PAGE that IS of a KIND tells: a ROOT how MANY signatures of all ROLES together, a LIST (LENT, too) how many FILES, "
            + "a LENT one the greatest SUM (0 without FILES), a TOGETHER one its LIST, an HOUR its TOGETHER one.");
        SignedPages x = oneOfEachKind();
        Bound.due("a ROOT", x.mark(1, 1), 5);
        Bound.due("a LIST", x.mark(2, 2), 2);
        Bound.due("a LENT one as a LIST", x.mark(3, 2), 3);
        Bound.due("a LENT one", x.mark(3, 3), 50);
        Bound.due("a TOGETHER one", x.mark(4, 4), 2);
        Bound.due("an HOUR", x.mark(5, 5), 4);
        int bare = Check.list(x, 1, 1, 0, 0, true);
        Bound.due("a LENT one without FILES as a LIST", x.mark(bare, 2), 0);
        Bound.due("a LENT one without FILES", x.mark(bare, 3), 0);
        int noughts = Check.list(x, 1, 1, 0, 0, true, 9, 0);
        Bound.due("a LENT one with a FILE of SUM 0", x.mark(noughts, 3), 0);
        int most = Check.list(x, 1, 1, 0, 0, true, 9, 999, 0, 1);
        Bound.due("a LENT one with the greatest SUM", x.mark(most, 3), 999);
        int first = Check.list(x, 1, 1, 0, 0, true, 5, 1, 0, 999);
        Bound.due("a LENT one whose FILE 0 has the greatest SUM", x.mark(first, 3), 999);
        int empty = Check.list(x, 1, 1, 0, 1023, false);
        Bound.due("a LIST without FILES", x.mark(empty, 2), 0);
    }

    private static void markBad() {
        Bound.of(18, "BAD: also KIND 0");
        SignedPages x = oneOfEachKind();
        for (int page = 0; page <= 5; page += 5) {
            int p = page;
            Bound.refused(x, "kind 0 of page " + page, Bound.BAD, () -> x.mark(p, 0));
            for (int kind : new int[] {-1, 6, Bound.MIN, Bound.MAX}) {
                Bound.refused(x, "kind " + kind + " of page " + page, Bound.BAD, () -> x.mark(p, kind));
            }
        }
        for (int page : new int[] {-1, 6, Bound.NONE, 40, Bound.MIN, Bound.MAX}) {
            Bound.refused(x, "page " + page, Bound.BAD, () -> x.mark(page, 1));
        }
    }

    private static void markUnlike() {
        Bound.of(18, "UNLIKE.");
        for (int page = 0; page <= 5; page++) {
            SignedPages x = oneOfEachKind();
            for (int kind = 1; kind <= 5; kind++) {
                int p = page;
                int other = kind;
                if (page != kind && !(page == 3 && kind == 2)) {
                    Bound.found(x, "kind " + page + " as kind " + kind, Bound.UNLIKE, () -> x.mark(p, other));
                }
            }
        }
    }

    private static void good() {
        Bound.of(19, "Whether a PAGE is GOOD by a ROOT: 1, 0.");
        SignedPages x = oneOfEachKind();
        Bound.due("a ROOT by itself, signed by none", x.good(1, 1), 0);
        x.sign(1, 2);
        Bound.due("signed by another ROLE's key", x.good(1, 1), 0);
        x.sign(1, 1);
        Bound.due("signed by its own", x.good(1, 1), 1);
        int two = Check.root(x, 50, 0, 0, 3, 2, 1, 1, 1, 1, 1, 1, 1, 1);
        x.later(999);
        Bound.due("whatever the day and the number", x.good(two, 1), 0);
        x.sign(two, 1);
        Bound.due("by one ROOT", x.good(two, 1), 1);
        Bound.due("but not by another", x.good(two, two), 0);
    }

    private static void goodBad() {
        Bound.of(19, "BAD");
        SignedPages x = oneOfEachKind();
        for (int page : new int[] {-1, 6, Bound.NONE, 40, Bound.MIN, Bound.MAX}) {
            Bound.refused(x, "page " + page, Bound.BAD, () -> x.good(page, 1));
            Bound.refused(x, "root " + page, Bound.BAD, () -> x.good(1, page));
        }
        Bound.refused(x, "ahead of UNLIKE", Bound.BAD, () -> x.good(6, 0));
    }

    private static void goodUnlike() {
        Bound.of(19, "UNLIKE: no ROOT.");
        SignedPages x = oneOfEachKind();
        for (int page : new int[] {0, 2, 3, 4, 5}) {
            Bound.found(x, "by a page of kind " + page, Bound.UNLIKE, () -> x.good(1, page));
        }
        Bound.found(x, "a note, which is never good", Bound.UNLIKE, () -> x.good(0, 0));
    }

    private static void sumOf() {
        Bound.of(20, "The SUM of a FILE by a LIST; NONE: it does not tell it.");
        SignedPages x = new SignedPages();
        int list = Check.list(x, 1, 1, 0, 1023, false, 0, 0, 9, 999);
        int lent = Check.list(x, 1, 1, 0, 0, true, 1, 5);
        int empty = Check.list(x, 1, 1, 0, 0, false);
        int[] files = {0, 1, 8, 9};
        int[] byList = {0, Bound.NONE, Bound.NONE, 999};
        int[] byLent = {Bound.NONE, 5, Bound.NONE, Bound.NONE};
        for (int i = 0; i < files.length; i++) {
            Bound.due("file " + files[i] + " by a list that lends all", x.sumOf(list, files[i]), byList[i]);
            Bound.due("file " + files[i] + " by a lent one", x.sumOf(lent, files[i]), byLent[i]);
            Bound.due("file " + files[i] + " by an empty list", x.sumOf(empty, files[i]), Bound.NONE);
        }
    }

    private static void sumOfBad() {
        Bound.of(20, "BAD");
        SignedPages x = oneOfEachKind();
        for (int page : new int[] {-1, 6, Bound.NONE, 40, Bound.MIN, Bound.MAX}) {
            Bound.refused(x, "page " + page, Bound.BAD, () -> x.sumOf(page, 3));
        }
        for (int file : Bound.outside(0, 9)) {
            Bound.refused(x, "file " + file, Bound.BAD, () -> x.sumOf(2, file));
        }
        Bound.refused(x, "file 10, ahead of UNLIKE", Bound.BAD, () -> x.sumOf(0, 10));
    }

    private static void sumOfUnlike() {
        Bound.of(20, "UNLIKE.");
        SignedPages x = oneOfEachKind();
        for (int page : new int[] {0, 1, 4, 5}) {
            Bound.found(x, "by a page of kind " + page, Bound.UNLIKE, () -> x.sumOf(page, 3));
        }
    }

    private static void chain() {
        Bound.of(21, "How long a CHAIN from a ROOT is (itself: 1); its last one by asked().");
        SignedPages alone = new SignedPages();
        Check.root(alone, 1, 0, 0, Bound.KEY_0);
        dueChain(alone, 0, 1, 0);
        SignedPages last = new SignedPages();
        Check.root(last, 99, 0, 1023, Bound.KEY_0);
        Check.root(last, 1, 0, 1023, Bound.KEY_0);
        Check.root(last, 98, 0, 1023, Bound.KEY_0);
        dueChain(last, 0, 1, 0);
        dueChain(last, 2, 2, 0);
        SignedPages forty = new SignedPages();
        Check.row(forty, 0, Bound.KEY_0);
        for (int p = 0; p < 40; p++) {
            Check.signed(forty, forty.root(99 - p, 0, 0), 1);
        }
        dueChain(forty, 39, 40, 0);
        dueChain(forty, 0, 1, 0);
    }

    private static void chainBad() {
        Bound.of(21, "BAD");
        SignedPages x = oneOfEachKind();
        x.told(5, 0);
        for (int page : new int[] {-1, 6, Bound.NONE, 40, Bound.MIN, Bound.MAX}) {
            Bound.refused(x, "page " + page, Bound.BAD, () -> x.chain(page));
        }
    }

    private static void chainUnlike() {
        Bound.of(21, "UNLIKE.");
        SignedPages x = oneOfEachKind();
        x.told(5, 0);
        for (int page : new int[] {0, 2, 3, 4, 5}) {
            Bound.found(x, "from a page of kind " + page, Bound.UNLIKE, () -> x.chain(page));
        }
    }
}
