/** Promises 11 to 21: pages, signatures, chains. */
public final class PagesTest {
    private static final int BAD = SignedPages.BAD, FULL = SignedPages.FULL, NONE = SignedPages.NONE;
    private static final int NOTHING = 1, UNLIKE = 3, SIZE = 5;
    private static final int[] PLAIN = {7, 2, 8, 1, 24, 1, 96, 2, 128, 1};

    private PagesTest() {
    }

    public static void main(String[] args) {
        note();
        root();
        list();
        togetherAndHour();
        signAndTold();
        mark();
        good();
        sumOf();
        chain();
        Check.end();
    }

    private static void note() {
        SignedPages x = new SignedPages();
        int[][] heads = {{0, 0}, {100, 0}, {1, -1}, {1, 1000}, {-1, -1}};
        for (int[] head : heads) {
            Check.due("note(" + head[0] + ", " + head[1] + ")", x.note(head[0], head[1]), BAD);
        }
        Check.due("note(1, 0)", x.note(1, 0), 0);
        for (int p = 1; p < 40; p++) {
            Check.due("note(99, 999)", x.note(99, 999), p);
        }
        Check.due("note: full", x.note(1, 0), FULL);
        Check.due("note: BAD ahead of FULL", x.note(0, 0), BAD);
        Check.due("root: FULL ahead of FINDING", x.root(1, 0, 0), FULL);
        Check.due("root: BAD ahead of FULL", x.root(1, 0, 6), BAD);
        Check.due("list: FULL ahead of FINDING", x.list(1, 0, 0, 0, false), FULL);
        Check.due("together: FULL ahead of FINDING", x.together(1, 0, 0, NONE), FULL);
        Check.due("hour: FULL ahead of FINDING", x.hour(1, 0, 0), FULL);
        Check.due("hour: BAD ahead of FULL", x.hour(1, 0, 40), BAD);
        Check.due("no finding", x.finding(), 0);
        Check.due("pages", x.count(1), 40);
    }

    private static void root() {
        SignedPages x = new SignedPages();
        Check.dueFinding(x, "root: missing", 0, x.root(1, 0, 0), NOTHING);
        Check.due("root: NUMBER", x.root(0, 0, 0), BAD);
        Check.due("root: DAY", x.root(1, 1000, 0), BAD);
        Check.due("root: row", x.root(1, 0, -1), BAD);
        x.row(0, 11);
        Check.dueFinding(x, "root: eleven", 0, x.root(1, 0, 0), SIZE);
        x.row(0, 0);
        Check.dueFinding(x, "root: none", 1, x.root(1, 0, 0), SIZE);
        int unlike = 0;
        for (int role = 0; role < 5; role++) {
            int tooMany = Integer.bitCount(PLAIN[2 * role]) + 1;
            int[][] wrong = {{0, 0}, {0, 1024}, {0, -1}, {1, 0}, {1, -1}, {1, tooMany}};
            for (int[] one : wrong) {
                Check.row(x, 0, PLAIN);
                x.lay(0, 2 * role + one[0], one[1]);
                Check.dueFinding(x, "root: role " + role + " by " + one[1], unlike, x.root(1, 0, 0), UNLIKE);
                unlike++;
            }
        }
        Check.row(x, 0, 1023, 10, 1, 1, 1023, 1, 512, 1, 3, 2);
        Check.due("root: greatest", x.root(99, 999, 0), 0);
        x.note(1, 1);
        Check.due("roots", x.count(2), 1);
    }

    private static void list() {
        SignedPages x = new SignedPages();
        Check.dueFinding(x, "list: missing", 0, x.list(1, 0, 0, 0, false), NOTHING);
        Check.due("list: NUMBER", x.list(100, 0, 0, 0, false), BAD);
        Check.due("list: DAY", x.list(1, -1, 0, 0, false), BAD);
        Check.due("list: row", x.list(1, 0, 6, 0, false), BAD);
        Check.due("list: lends", x.list(1, 0, 0, 1024, false), BAD);
        Check.due("list: lends below", x.list(1, 0, 0, -1, false), BAD);
        Check.due("lent one lends", x.list(1, 0, 0, 1, true), BAD);
        x.row(0, 1);
        Check.dueFinding(x, "list: not by twos", 0, x.list(1, 0, 0, 0, false), SIZE);
        int[][] unlike = {{10, 0}, {-1, 0}, {0, -1}, {0, 1000}, {3, 1, 4, 1, 3, 2}, {3, 1, 10, 1}};
        for (int i = 0; i < unlike.length; i++) {
            Check.row(x, 0, unlike[i]);
            Check.dueFinding(x, "list: unlike " + i, i, x.list(1, 0, 0, 0, i % 2 == 0), UNLIKE);
        }
        Check.row(x, 0, 0, 0, 9, 999);
        Check.due("list", x.list(1, 0, 0, 1023, false), 0);
        x.row(0, 0);
        Check.due("lent", x.list(1, 0, 0, 0, true), 1);
        Check.row(x, 0, 0, 1, 1, 1, 2, 1, 3, 1, 4, 1, 5, 1, 6, 1, 7, 1, 8, 1, 9, 1);
        Check.due("list of all", x.list(1, 0, 0, 0, false), 2);
        Check.due("lists", x.count(3), 3);
        x.tear(0);
        Check.due("a list stays as it was made", x.sumOf(2, 9), 1);
    }

    private static void togetherAndHour() {
        SignedPages x = new SignedPages();
        int list = Check.list(x, 1, 0, 0, 0, false);
        int lent = Check.list(x, 1, 0, 0, 0, true);
        Check.due("together: NUMBER", x.together(0, 0, list, NONE), BAD);
        Check.due("together: DAY", x.together(1, 1000, list, NONE), BAD);
        Check.due("together: no page", x.together(1, 0, 2, NONE), BAD);
        Check.due("together: NONE is no LIST", x.together(1, 0, NONE, NONE), BAD);
        Check.due("together: no lent page", x.together(1, 0, list, 2), BAD);
        Check.due("together: no lent page below", x.together(1, 0, list, -1), BAD);
        Check.dueFinding(x, "together: LENT for LIST", 0, x.together(1, 0, lent, NONE), UNLIKE);
        Check.dueFinding(x, "together: LIST for LENT", 1, x.together(1, 0, list, list), UNLIKE);
        Check.due("together", x.together(1, 0, list, NONE), 2);
        Check.due("together with a lent one", x.together(1, 0, list, lent), 3);
        Check.due("hour: NUMBER", x.hour(0, 0, 2), BAD);
        Check.due("hour: DAY", x.hour(1, 1000, 2), BAD);
        Check.due("hour: no page", x.hour(1, 0, 4), BAD);
        Check.due("hour: NONE", x.hour(1, 0, NONE), BAD);
        Check.dueFinding(x, "hour: a LIST", 2, x.hour(1, 0, list), UNLIKE);
        Check.due("hour", x.hour(1, 0, 3), 4);
        Check.dueFinding(x, "hour: an HOUR", 3, x.hour(1, 0, 4), UNLIKE);
    }

    private static void signAndTold() {
        SignedPages x = new SignedPages();
        Check.due("sign: no page", x.sign(0, 1), BAD);
        x.note(7, 9);
        Check.due("sign: none", x.sign(0, 0), 0);
        Check.due("sign", x.sign(0, 5), 2);
        Check.due("sign, too", x.sign(0, 6), 3);
        Check.due("sign: keys", x.sign(0, 1024), BAD);
        Check.due("sign: keys below", x.sign(0, -1), BAD);
        Check.due("sign: page below", x.sign(-1, 1), BAD);
        int[] facts = {0, 7, 9, 7};
        for (int what = 0; what < 4; what++) {
            Check.due("told", x.told(0, what), 1);
            Check.due("told " + what, x.asked(), facts[what]);
        }
        Check.due("told: what", x.told(0, 4), BAD);
        Check.due("told: what below", x.told(0, -1), BAD);
        Check.due("told: page", x.told(1, 0), BAD);
        Check.due("told: asked stays", x.asked(), 7);
    }

    private static void mark() {
        SignedPages x = new SignedPages();
        x.note(1, 1);
        Check.root(x, 1, 1, 0, PLAIN);
        Check.list(x, 1, 1, 0, 0, false, 3, 900, 4, 5);
        Check.list(x, 1, 1, 0, 0, true, 3, 9, 4, 50, 5, 6);
        x.together(1, 1, 2, 3);
        x.hour(1, 1, 4);
        Check.list(x, 1, 1, 0, 0, true);
        int u = -100;
        int[][] marks = {
            {u, u, u, u, u}, {7, u, u, u, u}, {u, 2, u, u, u}, {u, 3, 50, u, u},
            {u, u, u, 2, u}, {u, u, u, u, 4}, {u, 0, 0, u, u},
        };
        int unlike = 0;
        for (int p = 0; p < marks.length; p++) {
            for (int kind = 1; kind <= 5; kind++) {
                String call = "mark(" + p + ", " + kind + ")";
                if (marks[p][kind - 1] == u) {
                    Check.dueFinding(x, call, unlike, x.mark(p, kind), UNLIKE);
                    unlike++;
                } else {
                    Check.due(call, x.mark(p, kind), marks[p][kind - 1]);
                }
            }
        }
        Check.due("mark: KIND 0", x.mark(0, 0), BAD);
        Check.due("mark: KIND 6", x.mark(0, 6), BAD);
        Check.due("mark: KIND -1", x.mark(0, -1), BAD);
        Check.due("mark: page", x.mark(7, 1), BAD);
    }

    private static void good() {
        SignedPages x = new SignedPages();
        Check.due("good: no page", x.good(0, 0), BAD);
        int root = Check.root(x, 1, 1, 3, 7, 2, 8, 1, 48, 2, 64, 1, 896, 3);
        int list = Check.list(x, 1, 1, 0, 0, false);
        int lent = Check.list(x, 1, 1, 0, 0, true);
        int together = x.together(1, 1, list, lent);
        int hour = x.hour(1, 1, together);
        int note = Check.signed(x, x.note(1, 1), 1023);
        Check.due("a ROOT by itself", x.good(root, root), 1);
        Check.due("a note never", x.good(note, root), 0);
        goodFrom(x, hour, root, 1023 - 8, 8);
        goodFrom(x, together, root, 1023 - 32, 32);
        goodFrom(x, list, root, 1023 - 64, 64);
        goodFrom(x, lent, root, 1023 - 256, 256);
        Check.due("good: page", x.good(6, root), BAD);
        Check.due("good: root page", x.good(root, 6), BAD);
        Check.due("good: root below", x.good(root, -9), BAD);
        Check.dueFinding(x, "good: no ROOT", 0, x.good(root, list), UNLIKE);
        Check.dueFinding(x, "good: a note", 1, x.good(root, note), UNLIKE);
    }

    private static void goodFrom(SignedPages x, int page, int root, int almost, int last) {
        x.sign(page, almost);
        Check.due("page " + page + " short of one", x.good(page, root), 0);
        x.sign(page, last);
        Check.due("page " + page + " with all", x.good(page, root), 1);
    }

    private static void sumOf() {
        SignedPages x = new SignedPages();
        Check.due("sumOf: no page", x.sumOf(0, 0), BAD);
        x.note(1, 1);
        Check.list(x, 1, 1, 0, 2, false, 0, 0, 9, 999);
        Check.list(x, 1, 1, 0, 0, true, 1, 5);
        Check.due("sumOf 0", x.sumOf(1, 0), 0);
        Check.due("sumOf 9", x.sumOf(1, 9), 999);
        Check.due("sumOf a lent FILE", x.sumOf(1, 1), NONE);
        Check.due("sumOf by LENT", x.sumOf(2, 1), 5);
        Check.due("sumOf: FILE", x.sumOf(1, 10), BAD);
        Check.due("sumOf: FILE below", x.sumOf(1, -1), BAD);
        Check.dueFinding(x, "sumOf: a note", 0, x.sumOf(0, 0), UNLIKE);
    }

    private static void chain() {
        SignedPages x = new SignedPages();
        Check.due("chain: no page", x.chain(0), BAD);
        x.note(2, 1);
        x.sign(0, 1023);
        Check.dueFinding(x, "chain: a note", 0, x.chain(0), UNLIKE);
        int first = Check.root(x, 1, 1, 0, 1, 1, 1, 1, 1, 1, 1, 1, 1, 1);
        Check.due("chain of one, though it has not signed itself", x.chain(first), 1);
        Check.due("its last one", x.asked(), first);
        int byOld = Check.root(x, 2, 1, 1, 2, 1, 1, 1, 1, 1, 1, 1, 1, 1);
        int byNew = Check.root(x, 2, 1, 2, 2, 1, 1, 1, 1, 1, 1, 1, 1, 1);
        Check.due("by one of both is not enough", x.chain(first), 1);
        int second = Check.root(x, 2, 0, 3, 2, 1, 1, 1, 1, 1, 1, 1, 1, 1);
        int other = Check.root(x, 2, 1, 3, 2, 1, 1, 1, 1, 1, 1, 1, 1, 1);
        Check.due("chain of two, whatever the day", x.chain(first), 2);
        Check.due("the first PAGE that can be next", x.asked(), second);
        x.sign(byOld, 2);
        x.chain(first);
        Check.due("an earlier PAGE that is signed later", x.asked(), byOld);
        int third = Check.root(x, 3, 1, 2, 2, 1, 1, 1, 1, 1, 1, 1, 1, 1);
        Check.due("chain of three", x.chain(first), 3);
        Check.due("its last one", x.asked(), third);
        Check.due("chain from another second", x.chain(other), 2);
        Check.due("chain from an unsigned second", x.chain(byNew), 2);
        Check.due("chain from the last", x.chain(third), 1);
        Check.due("chain: page", x.chain(99), BAD);
        Check.due("asked stays", x.asked(), third);
        longChain();
    }

    private static void longChain() {
        SignedPages x = new SignedPages();
        Check.row(x, 0, 1, 1, 1, 1, 1, 1, 1, 1, 1, 1);
        for (int p = 0; p < 40; p++) {
            Check.signed(x, x.root(40 - p, 0, 0), 1);
        }
        Check.due("chain of all PAGES", x.chain(39), 40);
        Check.due("its last one", x.asked(), 0);
    }
}
