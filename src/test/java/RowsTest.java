/** Promises 1 to 10: a new object, rows, texts, the day. */
public final class RowsTest {
    private static final int BAD = SignedPages.BAD;
    private static final int NOTHING = 1, BEYOND = 2, NOUGHT = 4, SIZE = 5;

    private RowsTest() {
    }

    public static void main(String[] args) {
        newObject();
        row();
        layAndAt();
        tear();
        copy();
        mean();
        textAndPut();
        later();
        Check.end();
    }

    private static void newObject() {
        SignedPages x = new SignedPages();
        for (int what = 0; what < 8; what++) {
            Check.due("new: count(" + what + ")", x.count(what), 0);
        }
        Check.due("new: asked()", x.asked(), 0);
        Check.due("new: upper()", x.upper(), 0);
        Check.due("new: lower()", x.lower(), 1);
        Check.due("new: finding()", x.finding(), 0);
        for (int f = 1; f <= 5; f++) {
            Check.due("new: findings(" + f + ")", x.findings(f), 0);
        }
        for (int r = 0; r < 6; r++) {
            Check.due("new: at", x.at(r, 0), SignedPages.FINDING);
        }
        for (int t = 0; t < 4; t++) {
            Check.due("new: fault", x.fault(t), SignedPages.FINDING);
        }
        for (int m = 0; m < 4; m++) {
            Check.due("new: took", x.took(m, 0), SignedPages.FINDING);
        }
        Check.due("new: findings(1)", x.findings(1), 14);
    }

    private static void row() {
        SignedPages x = new SignedPages();
        Check.due("row(0, 0)", x.row(0, 0), 0);
        Check.due("row(5, 40)", x.row(5, 40), 40);
        Check.due("row(5, 41)", x.row(5, 41), BAD);
        Check.due("row(6, 1)", x.row(6, 1), BAD);
        Check.due("row(-1, 1)", x.row(-1, 1), BAD);
        Check.due("row(-1, -1): BAD ahead", x.row(-1, -1), BAD);
        Check.due("row(MAX)", x.row(0, Integer.MAX_VALUE), BAD);
        Check.dueFinding(x, "row(0, -1)", 0, x.row(0, -1), SIZE);
        Check.dueFinding(x, "row(0, MIN)", 1, x.row(0, Integer.MIN_VALUE), SIZE);
        Check.due("rows there", x.count(6), 2);
        Check.row(x, 1, 4, 5, 6);
        Check.due("row(1, 3) anew", x.row(1, 3), 3);
        for (int i = 0; i < 3; i++) {
            x.at(1, i);
            Check.due("row anew is 0", x.asked(), 0);
        }
    }

    private static void layAndAt() {
        SignedPages x = new SignedPages();
        Check.dueFinding(x, "lay: missing", 0, x.lay(2, 0, 7), NOTHING);
        Check.dueFinding(x, "at: missing", 1, x.at(2, 0), NOTHING);
        x.row(2, 3);
        Check.due("lay", x.lay(2, 2, -7), 1);
        Check.due("lay: what it was", x.asked(), 0);
        Check.due("lay again", x.lay(2, 2, Integer.MIN_VALUE), 1);
        Check.due("lay: what it was", x.asked(), -7);
        Check.due("at", x.at(2, 2), 1);
        Check.due("at: asked", x.asked(), Integer.MIN_VALUE);
        Check.dueFinding(x, "lay: beyond", 0, x.lay(2, 3, 1), BEYOND);
        Check.dueFinding(x, "lay: below", 1, x.lay(2, -1, 1), BEYOND);
        Check.dueFinding(x, "at: beyond", 2, x.at(2, 3), BEYOND);
        Check.dueFinding(x, "at: below", 3, x.at(2, -1), BEYOND);
        Check.dueFinding(x, "at: far", 4, x.at(2, Integer.MAX_VALUE), BEYOND);
        Check.due("lay: bad row", x.lay(6, 0, 1), BAD);
        Check.due("at: bad row", x.at(-1, 0), BAD);
        Check.due("asked stays", x.asked(), Integer.MIN_VALUE);
    }

    private static void tear() {
        SignedPages x = new SignedPages();
        Check.dueFinding(x, "tear: missing", 0, x.tear(0), NOTHING);
        x.row(0, 0);
        Check.due("tear", x.tear(0), 1);
        Check.due("rows there", x.count(6), 0);
        Check.dueFinding(x, "tear twice", 1, x.tear(0), NOTHING);
        Check.due("tear(6)", x.tear(6), BAD);
        Check.due("tear(-1)", x.tear(-1), BAD);
    }

    private static void copy() {
        SignedPages x = new SignedPages();
        Check.row(x, 0, 1, 2, 3, 4, 5);
        Check.row(x, 1, 0, 0);
        Check.due("copy", x.copy(0, 3, 1, 0, 2), 1);
        dueRow(x, 1, 4, 5);
        Check.due("copy upward in itself", x.copy(0, 0, 0, 1, 4), 1);
        dueRow(x, 0, 1, 1, 2, 3, 4);
        Check.due("copy downward in itself", x.copy(0, 1, 0, 0, 4), 1);
        dueRow(x, 0, 1, 2, 3, 4, 4);
        Check.due("copy none", x.copy(0, 5, 1, 2, 0), 1);
        Check.dueFinding(x, "copy: n below 0", 0, x.copy(0, 0, 4, 0, -1), SIZE);
        Check.dueFinding(x, "copy: from missing", 0, x.copy(4, 0, 0, 0, 99), NOTHING);
        Check.dueFinding(x, "copy: to missing", 1, x.copy(0, 0, 4, 0, 99), NOTHING);
        Check.dueFinding(x, "copy: too many from", 0, x.copy(1, 1, 0, 0, 2), BEYOND);
        Check.dueFinding(x, "copy: too many to", 1, x.copy(0, 0, 1, 1, 2), BEYOND);
        Check.dueFinding(x, "copy: from below", 2, x.copy(0, -1, 1, 0, 1), BEYOND);
        Check.dueFinding(x, "copy: to below", 3, x.copy(0, 0, 1, -1, 1), BEYOND);
        Check.dueFinding(x, "copy: none beyond", 4, x.copy(0, 6, 1, 0, 0), BEYOND);
        Check.dueFinding(x, "copy: far", 5, x.copy(0, Integer.MAX_VALUE, 1, 0, Integer.MAX_VALUE), BEYOND);
        Check.due("copy: bad from", x.copy(6, 0, 0, 0, -1), BAD);
        Check.due("copy: bad to", x.copy(0, 0, -1, 0, -1), BAD);
        dueRow(x, 0, 1, 2, 3, 4, 4);
    }

    private static void dueRow(SignedPages x, int r, int... places) {
        for (int i = 0; i < places.length; i++) {
            x.at(r, i);
            Check.due("row " + r + " place " + i, x.asked(), places[i]);
        }
    }

    private static void mean() {
        SignedPages x = new SignedPages();
        Check.dueFinding(x, "mean: missing", 0, x.mean(0), NOTHING);
        x.row(0, 0);
        Check.dueFinding(x, "mean of none", 0, x.mean(0), NOUGHT);
        Check.due("mean: bad", x.mean(6), BAD);
        Check.row(x, 0, 3, 4);
        Check.due("mean", x.mean(0), 1);
        Check.due("mean cut", x.asked(), 3);
        Check.row(x, 0, -3, -4);
        x.mean(0);
        Check.due("mean cut below 0", x.asked(), -3);
        Check.row(x, 0, Integer.MAX_VALUE, Integer.MAX_VALUE, Integer.MAX_VALUE);
        x.mean(0);
        Check.due("mean of great ones", x.asked(), Integer.MAX_VALUE);
        Check.row(x, 0, Integer.MIN_VALUE, Integer.MIN_VALUE);
        x.mean(0);
        Check.due("mean of least ones", x.asked(), Integer.MIN_VALUE);
    }

    private static void textAndPut() {
        SignedPages x = new SignedPages();
        Check.dueFinding(x, "put: missing", 0, x.put(3, 0, 1), NOTHING);
        Check.due("text", x.text(3, 40), 40);
        Check.due("text: too long", x.text(3, 41), BAD);
        Check.due("text: bad", x.text(4, 1), BAD);
        Check.due("text: bad below", x.text(-1, -1), BAD);
        Check.dueFinding(x, "text: below 0", 0, x.text(3, -1), SIZE);
        Check.due("put: was a blank", x.put(3, 39, 255), 1032);
        Check.due("put: was cut to a byte", x.put(3, 39, 128), 999);
        Check.due("put: was the least byte", x.put(3, 39, 256 + 65), 872);
        Check.due("put: cut", x.put(3, 39, 0), 1065);
        Check.dueFinding(x, "put: beyond", 0, x.put(3, 40, 0), BEYOND);
        Check.dueFinding(x, "put: below", 1, x.put(3, -1, 0), BEYOND);
        Check.due("put: bad", x.put(4, 0, 0), BAD);
        Check.due("text anew", x.text(3, 40), 40);
        Check.due("text anew is blank", x.put(3, 39, 1), 1032);
        Check.due("texts there", x.count(7), 1);
    }

    private static void later() {
        SignedPages x = new SignedPages();
        Check.due("later(0)", x.later(0), 0);
        Check.due("later(10)", x.later(10), 10);
        Check.due("later(-1)", x.later(-1), BAD);
        Check.due("later(990)", x.later(990), BAD);
        Check.due("later(MAX)", x.later(Integer.MAX_VALUE), BAD);
        Check.due("today stays", x.count(0), 10);
        Check.due("later(989)", x.later(989), 999);
        Check.due("later(1)", x.later(1), BAD);
        Check.due("later(0)", x.later(0), 999);
    }
}
