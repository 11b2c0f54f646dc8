/** Promises 39 to 45: asked, upper, lower, count, finding, findings, digest. */
public final class ToldTest {
    private static final int BAD = SignedPages.BAD, NONE = SignedPages.NONE;

    private ToldTest() {
    }

    public static void main(String[] args) {
        asked();
        fraction();
        count();
        findings();
        digestOfNew();
        digestByHand();
        Check.end();
    }

    private static void asked() {
        SignedPages x = new SignedPages();
        Check.row(x, 0, 4, 8);
        x.lay(0, 0, 5);
        Check.due("asked: lay", x.asked(), 4);
        x.at(0, 1);
        Check.due("asked: at", x.asked(), 8);
        x.mean(0);
        Check.due("asked: mean", x.asked(), 6);
        int root = Check.root(x, 3, 77, 0, 1, 1, 1, 1, 1, 1, 1, 1, 1, 1);
        x.told(root, 2);
        Check.due("asked: told", x.asked(), 77);
        x.chain(root);
        Check.due("asked: chain", x.asked(), root);
        Check.text(x, 0, "L");
        x.least(0, root, 0);
        Check.due("asked: least", x.asked(), 1);
        Check.row(x, 1, 0, 0, 0, 0);
        x.askings(root, 1, 0, 1);
        Check.due("asked: askings", x.asked(), 1111);
        x.askings(root, 1, 1, 1);
        x.askings(root, 1, 9, 1);
        x.at(0, 2);
        x.at(9, 0);
        x.told(root, 4);
        x.tear(4);
        x.copy(0, 0, 0, 1, 1);
        x.put(0, 0, 'L');
        x.sumOf(root, 0);
        x.share(0, root, 0, 1);
        x.digest();
        x.count(1);
        Check.due("asked stays", x.asked(), 1111);
    }

    private static void fraction() {
        SignedPages x = new SignedPages();
        int root = Check.root(x, 3, 77, 0, 1, 1, 1, 1, 1, 1, 3, 1, 1, 1);
        Check.text(x, 0, "L");
        x.share(0, root, 0, 1);
        Check.due("upper", x.upper(), 1);
        Check.due("lower", x.lower(), 5);
        x.share(0, root, 0, 11);
        x.least(0, root, 0);
        Check.due("upper stays", x.upper(), 1);
        Check.due("lower stays", x.lower(), 5);
        x.share(0, root, 0, 0);
        Check.due("none: 0", x.upper(), 0);
        Check.due("none: by 1", x.lower(), 1);
    }

    private static void count() {
        SignedPages x = new SignedPages();
        Check.due("count(-1)", x.count(-1), BAD);
        Check.due("count(8)", x.count(8), BAD);
        x.later(3);
        x.note(1, 1);
        Check.root(x, 3, 77, 0, 1, 1, 1, 1, 1, 1, 1, 1, 1, 1);
        Check.root(x, 3, 77, 0, 1, 1, 1, 1, 1, 1, 1, 1, 1, 1);
        Check.list(x, 1, 1, 0, 0, false);
        Check.list(x, 1, 1, 0, 0, true);
        Check.list(x, 1, 1, 0, 0, true);
        x.together(1, 1, 3, NONE);
        Check.text(x, 0, "L");
        Check.text(x, 1, "L");
        x.text(3, 0);
        x.machine(0, 0, 1);
        x.machine(2, 0, 1);
        x.machine(2, 0, 1);
        x.row(0, 0);
        Check.row(x, 1, NONE, NONE, NONE, NONE, NONE);
        x.ask(0, 1);
        x.ask(2, 1);
        x.ask(2, 1);
        x.offer(2, 0, 0);
        int[] counts = {3, 7, 2, 3, 2, 3, 3, 3};
        for (int what = 0; what < 8; what++) {
            Check.due("count(" + what + ")", x.count(what), counts[what]);
        }
    }

    private static void findings() {
        SignedPages x = new SignedPages();
        x.at(0, 0);
        x.row(0, -1);
        x.row(0, -1);
        x.row(0, 0);
        x.mean(0);
        x.at(0, 0);
        x.note(1, 1);
        x.chain(0);
        Check.due("finding", x.finding(), 3);
        x.row(9, 9);
        x.note(0, 0);
        Check.due("BAD is no FINDING", x.finding(), 3);
        int[] times = {1, 1, 1, 1, 2};
        for (int f = 1; f <= 5; f++) {
            Check.due("findings(" + f + ")", x.findings(f), times[f - 1]);
        }
        Check.due("findings(0)", x.findings(0), BAD);
        Check.due("findings(6)", x.findings(6), BAD);
        Check.due("findings(-1)", x.findings(-1), BAD);
    }

    private static long more(long h, long... values) {
        long sum = h;
        for (long v : values) {
            sum = 31 * sum + v;
        }
        return sum;
    }

    private static void digestOfNew() {
        long h = more(17, 0, 0, 0, 0, 0, 0, 0, 0);
        h = more(h, -1, -1, -1, -1);
        h = more(h, new long[30]);
        h = more(h, -1, -1, -1, -1, -1, -1);
        h = more(h, -1, -1, -1, -1);
        Check.due("digest of a new object", new SignedPages().digest(), h);
    }

    private static void digestByHand() {
        SignedPages x = new SignedPages();
        x.later(5);
        Check.signed(x, x.note(9, 8), 6);
        Check.root(x, 3, 77, 1, 3, 2, 1, 1, 1, 1, 1, 1, 1, 1);
        Check.list(x, 4, 6, 1, 0, true, 2, 50, 3, 40);
        Check.text(x, 1, "N");
        x.put(1, 0, 200);
        x.put(1, 0, 'N');
        x.machine(2, 1, 1);
        Check.row(x, 5, NONE, NONE, NONE, NONE, 2);
        x.ask(2, 5);
        x.lay(5, 4, 0);
        x.ask(2, 5);
        x.offer(2, 7, 70);
        x.put(1, 0, 200);
        long h = more(17, 5, 3, 1, 1, 1, 1, 1, 1);
        h = more(h, 0, 9, 8, 6, 0, 0);
        h = more(h, 1, 3, 77, 1, 4, 6);
        h = more(h, 3, 4, 6, 1, 4, 50);
        h = more(h, -1, -1, 1, 1, -9, -9, -9, 2, -9, -9, -9, -9, -9, -9, -9, 70, -9, -9, -1);
        h = more(h, 0, 1, 0, 0, 0, 0);
        h = more(h, new long[24]);
        h = more(h, -1, -1, -1, -1, -1, 5, -9, -9, -9, -9, 0);
        h = more(h, -1, 1, -56, -1, -1);
        Check.due("digest", x.digest(), h);
        Check.due("digest again", x.digest(), h);
    }
}
