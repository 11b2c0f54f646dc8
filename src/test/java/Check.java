/** What the tests share: answers that are due, and short ways to lay rows and texts. */
final class Check {
    private static int wrong = 0;
    private static int looked = 0;

    private Check() {
    }

    static void due(String what, long got, long want) {
        looked++;
        if (got != want) {
            wrong++;
            System.out.println(what + " answered " + got + ", due is " + want);
        }
    }

    /** A call that is due to be answered by a FINDING of a certain number, counted once. */
    static void dueFinding(SignedPages x, String what, int before, long got, int finding) {
        due(what, got, SignedPages.FINDING);
        due(what + ": finding()", x.finding(), finding);
        due(what + ": findings(" + finding + ")", x.findings(finding), before + 1);
    }

    static void end() {
        System.out.println(wrong == 0 ? looked + " answers are as due" : wrong + " of " + looked + " answers are not as due");
        if (wrong != 0) {
            System.exit(1);
        }
    }

    static void row(SignedPages x, int r, int... places) {
        x.row(r, places.length);
        for (int i = 0; i < places.length; i++) {
            x.lay(r, i, places[i]);
        }
    }

    static void text(SignedPages x, int t, String letters) {
        x.text(t, letters.length());
        for (int i = 0; i < letters.length(); i++) {
            x.put(t, i, letters.charAt(i));
        }
    }

    /** A ROOT by pairs of KEYS and how MANY, signed; row 5 is used for it. */
    static int root(SignedPages x, int number, int till, int signers, int... pairs) {
        row(x, 5, pairs);
        int page = x.root(number, till, 5);
        x.sign(page, signers);
        return page;
    }

    /** A LIST or LENT page by pairs of FILE and SUM, signed; row 5 is used for it. */
    static int list(SignedPages x, int number, int till, int signers, int lends, boolean lent, int... pairs) {
        row(x, 5, pairs);
        int page = x.list(number, till, 5, lends, lent);
        x.sign(page, signers);
        return page;
    }

    static int signed(SignedPages x, int page, int signers) {
        x.sign(page, signers);
        return page;
    }
}
