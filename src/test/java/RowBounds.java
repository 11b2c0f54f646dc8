import java.util.function.IntSupplier;

/** Boundaries of promises 1 to 10, and of the Terms on rows, texts and the day. */
final class RowBounds {
    private RowBounds() {
    }

    static void all() {
        termsRows();
        termsTexts();
        termsToday();
        newObject();
        rowIsThere();
        rowBad();
        rowSize();
        layPlaces();
        layBad();
        layNothing();
        layBeyond();
        atPlaces();
        atBad();
        atNothing();
        atBeyond();
        tearRow();
        tearBad();
        tearNothing();
        copyWithinAndAcross();
        copyNone();
        copyBad();
        copySize();
        copyNothing();
        copyBeyond();
        meanCut();
        meanBad();
        meanNothing();
        meanNought();
        textIsThere();
        textBad();
        textSize();
        putCut();
        putBad();
        putNothing();
        putBeyond();
        laterDays();
        laterBad();
    }

    private static void termsRows() {
        Bound.of(Bound.TERMS, "ROWS 0 .. 5 are rows of 0 to 40 ints");
        SignedPages x = new SignedPages();
        for (int r = 0; r <= 5; r++) {
            Bound.due("row(" + r + ", 0)", x.row(r, 0), 0);
            Bound.due("row(" + r + ", 40)", x.row(r, 40), 40);
            for (int i = 0; i < 40; i += 39) {
                for (int v : new int[] {Bound.MIN, Bound.MAX}) {
                    x.lay(r, i, v);
                    x.at(r, i);
                    Bound.due("place " + i + " of row " + r, x.asked(), v);
                }
            }
        }
        Bound.due("rows", x.count(6), 6);
        for (int r : Bound.outside(0, 5)) {
            Bound.refused(x, "row(" + r + ", 1)", Bound.BAD, () -> x.row(r, 1));
        }
    }

    private static void termsTexts() {
        Bound.of(Bound.TERMS, "TEXTS 0 .. 3 rows of 0 to 40 bytes, or missing (at first).");
        SignedPages x = new SignedPages();
        for (int r = 0; r <= 5; r++) {
            int row = r;
            Bound.found(x, "row " + r + " at first", Bound.NOTHING, () -> x.tear(row));
        }
        for (int t = 0; t <= 3; t++) {
            int text = t;
            Bound.found(x, "text " + t + " at first", Bound.NOTHING, () -> x.fault(text));
        }
        for (int t = 0; t <= 3; t++) {
            Bound.due("text(" + t + ", 0)", x.text(t, 0), 0);
            Bound.due("text(" + t + ", 40)", x.text(t, 40), 40);
            Bound.due("first byte of text " + t, x.put(t, 0, 1), 1032);
            Bound.due("last byte of text " + t, x.put(t, 39, 1), 1032);
        }
        Bound.due("texts", x.count(7), 4);
        for (int t : Bound.outside(0, 3)) {
            Bound.refused(x, "text(" + t + ", 1)", Bound.BAD, () -> x.text(t, 1));
        }
    }

    private static void termsToday() {
        Bound.of(Bound.TERMS, "TODAY is a day (0 .. 999; 0 at first), which only goes on.");
        SignedPages x = new SignedPages();
        Bound.due("at first", x.count(0), 0);
        Bound.due("as far as it goes", x.later(999), 999);
        for (int n : new int[] {1, -1, -999}) {
            Bound.refused(x, "later(" + n + ")", Bound.BAD, () -> x.later(n));
        }
        Bound.due("today", x.count(0), 999);
    }

    private static void newObject() {
        Bound.of(1, "No ROWS, TEXTS, PAGES, MACHINES; TODAY 0.");
        SignedPages x = new SignedPages();
        for (int what = 0; what <= 7; what++) {
            Bound.due("count(" + what + ")", x.count(what), 0);
        }
        for (int r = 0; r <= 5; r++) {
            int row = r;
            Bound.found(x, "no row " + r, Bound.NOTHING, () -> x.at(row, 0));
        }
        for (int t = 0; t <= 3; t++) {
            int text = t;
            Bound.found(x, "no text " + t, Bound.NOTHING, () -> x.put(text, 0, 0));
        }
        for (int m = 0; m <= 3; m++) {
            int machine = m;
            Bound.found(x, "no machine " + m, Bound.NOTHING, () -> x.walk(machine));
        }
        Bound.refused(x, "no page 0", Bound.BAD, () -> x.told(0, 0));
        Bound.due("today", x.later(0), 0);
    }

    private static void rowIsThere() {
        Bound.of(2, "A ROW is there with n ints 0: n.");
        SignedPages x = new SignedPages();
        for (int n : new int[] {0, 1, 39, 40}) {
            Bound.due("row(0, " + n + ")", x.row(0, n), n);
            Bound.dueRow(x, 0, new int[n]);
        }
        x.lay(0, 39, 5);
        x.lay(0, 0, 6);
        Bound.due("shorter", x.row(0, 1), 1);
        Bound.dueRow(x, 0, 0);
        Bound.due("longer again", x.row(0, 40), 40);
        x.at(0, 39);
        Bound.due("what was behind is 0", x.asked(), 0);
        x.lay(0, 3, 7);
        x.tear(0);
        Bound.due("behind a tear", x.row(0, 4), 4);
        Bound.dueRow(x, 0, 0, 0, 0, 0);
    }

    private static void rowBad() {
        Bound.of(2, "BAD: also n above 40");
        SignedPages x = new SignedPages();
        Check.row(x, 0, 3, 4);
        for (int n : new int[] {41, 42, Bound.MAX}) {
            Bound.refused(x, "a row there, n " + n, Bound.BAD, () -> x.row(0, n));
            Bound.refused(x, "a missing row, n " + n, Bound.BAD, () -> x.row(1, n));
        }
        for (int r : Bound.outside(0, 5)) {
            Bound.refused(x, "row " + r + ", none", Bound.BAD, () -> x.row(r, 0));
            Bound.refused(x, "row " + r + ", ahead of SIZE", Bound.BAD, () -> x.row(r, -1));
        }
        Bound.dueRow(x, 0, 3, 4);
    }

    private static void rowSize() {
        Bound.of(2, "SIZE: below 0.");
        SignedPages x = new SignedPages();
        Check.row(x, 0, 3, 4);
        for (int n : new int[] {-1, Bound.NONE, -41, Bound.MIN}) {
            Bound.found(x, "a row there, n " + n, Bound.SIZE, () -> x.row(0, n));
            Bound.found(x, "a missing row, n " + n, Bound.SIZE, () -> x.row(5, n));
        }
        Bound.dueRow(x, 0, 3, 4);
    }

    private static void layPlaces() {
        Bound.of(3, "Place i of a ROW is v: what it was, told by asked(): 1.");
        SignedPages x = new SignedPages();
        x.row(2, 40);
        for (int i : new int[] {0, 39}) {
            int was = 0;
            for (int v : new int[] {Bound.MAX, Bound.MIN, -1, 0, Bound.NONE}) {
                Bound.due("lay place " + i, x.lay(2, i, v), 1);
                Bound.due("what place " + i + " was", x.asked(), was);
                was = v;
            }
        }
        x.at(2, 1);
        Bound.due("the place beside", x.asked(), 0);
        x.at(2, 38);
        Bound.due("the place beside", x.asked(), 0);
        x.at(2, 0);
        Bound.due("the first place", x.asked(), Bound.NONE);
    }

    private static void layBad() {
        Bound.of(3, "BAD");
        SignedPages x = new SignedPages();
        Check.row(x, 5, 3, 4);
        for (int r : Bound.outside(0, 5)) {
            Bound.refused(x, "row " + r, Bound.BAD, () -> x.lay(r, 0, 1));
            Bound.refused(x, "row " + r + ", ahead of BEYOND", Bound.BAD, () -> x.lay(r, -1, 1));
        }
    }

    private static void layNothing() {
        Bound.of(3, "NOTHING");
        SignedPages x = new SignedPages();
        Bound.found(x, "missing at first", Bound.NOTHING, () -> x.lay(5, 0, 1));
        x.row(5, 1);
        x.tear(5);
        Bound.found(x, "torn", Bound.NOTHING, () -> x.lay(5, 0, 1));
        Bound.found(x, "ahead of BEYOND", Bound.NOTHING, () -> x.lay(5, -1, 1));
    }

    private static void layBeyond() {
        Bound.of(3, "BEYOND.");
        SignedPages x = new SignedPages();
        x.row(0, 40);
        Check.row(x, 1, 3, 4);
        x.row(2, 0);
        for (int i : new int[] {-1, 2, 39, Bound.MIN, Bound.MAX}) {
            Bound.found(x, "place " + i + " of two", Bound.BEYOND, () -> x.lay(1, i, 7));
        }
        Bound.found(x, "place 40 of forty", Bound.BEYOND, () -> x.lay(0, 40, 7));
        Bound.found(x, "place 0 of none", Bound.BEYOND, () -> x.lay(2, 0, 7));
    }

    private static void atPlaces() {
        Bound.of(4, "Place i of a ROW, told by asked(): 1.");
        SignedPages x = new SignedPages();
        x.row(5, 40);
        x.lay(5, 0, Bound.MIN);
        x.lay(5, 39, Bound.MAX);
        long before = x.digest();
        Bound.due("first", x.at(5, 0), 1);
        Bound.due("what the first is", x.asked(), Bound.MIN);
        Bound.due("last", x.at(5, 39), 1);
        Bound.due("what the last is", x.asked(), Bound.MAX);
        Bound.due("nothing is changed", x.digest(), before);
    }

    private static void atBad() {
        Bound.of(4, "BAD");
        SignedPages x = new SignedPages();
        Check.row(x, 5, 3, 4);
        for (int r : Bound.outside(0, 5)) {
            Bound.refused(x, "row " + r, Bound.BAD, () -> x.at(r, 0));
            Bound.refused(x, "row " + r + ", ahead of BEYOND", Bound.BAD, () -> x.at(r, -1));
        }
    }

    private static void atNothing() {
        Bound.of(4, "NOTHING");
        SignedPages x = new SignedPages();
        Bound.found(x, "missing at first", Bound.NOTHING, () -> x.at(5, 0));
        x.row(5, 1);
        x.tear(5);
        Bound.found(x, "torn", Bound.NOTHING, () -> x.at(5, 0));
        Bound.found(x, "ahead of BEYOND", Bound.NOTHING, () -> x.at(5, 40));
    }

    private static void atBeyond() {
        Bound.of(4, "BEYOND.");
        SignedPages x = new SignedPages();
        x.row(0, 40);
        Check.row(x, 1, 3, 4);
        x.row(2, 0);
        for (int i : new int[] {-1, 2, 39, Bound.MIN, Bound.MAX}) {
            Bound.found(x, "place " + i + " of two", Bound.BEYOND, () -> x.at(1, i));
        }
        Bound.found(x, "place 40 of forty", Bound.BEYOND, () -> x.at(0, 40));
        Bound.found(x, "place 0 of none", Bound.BEYOND, () -> x.at(2, 0));
    }

    private static void tearRow() {
        Bound.of(5, "A ROW is missing: 1.");
        SignedPages x = new SignedPages();
        for (int n : new int[] {0, 1, 40}) {
            for (int r = 0; r <= 5; r += 5) {
                int row = r;
                x.row(r, n);
                Bound.due("tear row " + r + " of " + n, x.tear(r), 1);
                Bound.due("rows", x.count(6), 0);
                Bound.found(x, "it is missing", Bound.NOTHING, () -> x.at(row, 0));
            }
        }
        x.row(0, 2);
        x.row(1, 2);
        Bound.due("tear one of two", x.tear(0), 1);
        Bound.dueRow(x, 1, 0, 0);
    }

    private static void tearBad() {
        Bound.of(5, "BAD");
        SignedPages x = new SignedPages();
        for (int r = 0; r <= 5; r++) {
            x.row(r, 1);
        }
        for (int r : Bound.outside(0, 5)) {
            Bound.refused(x, "row " + r, Bound.BAD, () -> x.tear(r));
        }
    }

    private static void tearNothing() {
        Bound.of(5, "NOTHING.");
        SignedPages x = new SignedPages();
        Bound.found(x, "missing at first", Bound.NOTHING, () -> x.tear(0));
        x.row(0, 0);
        x.tear(0);
        Bound.found(x, "torn already", Bound.NOTHING, () -> x.tear(0));
    }

    private static void copyWithinAndAcross() {
        Bound.of(6, "n places of a ROW, from one on, come to those of another one (perhaps itself) from one on, as if taken ahead: 1.");
        SignedPages x = new SignedPages();
        Check.row(x, 0, 1, 2, 3, 4, 5);
        Check.row(x, 1, 6, 7, 8);
        Bound.due("the last ones to the first ones", x.copy(0, 3, 1, 0, 2), 1);
        Bound.dueRow(x, 1, 4, 5, 8);
        Bound.due("one to the last place", x.copy(0, 0, 1, 2, 1), 1);
        Bound.dueRow(x, 1, 4, 5, 1);
        Bound.due("upward in itself", x.copy(0, 0, 0, 1, 4), 1);
        Bound.dueRow(x, 0, 1, 1, 2, 3, 4);
        Bound.due("downward in itself", x.copy(0, 2, 0, 0, 3), 1);
        Bound.dueRow(x, 0, 2, 3, 4, 3, 4);
        Bound.due("itself to itself, whole", x.copy(0, 0, 0, 0, 5), 1);
        Bound.dueRow(x, 0, 2, 3, 4, 3, 4);
        x.row(2, 40);
        x.lay(2, 0, 8);
        x.lay(2, 39, 9);
        x.row(5, 40);
        Bound.due("forty", x.copy(2, 0, 5, 0, 40), 1);
        x.at(5, 39);
        Bound.due("the fortieth", x.asked(), 9);
        x.at(5, 0);
        Bound.due("the first of forty", x.asked(), 8);
    }

    private static void copyNone() {
        Bound.of(6, "n places of a ROW, from one on");
        SignedPages x = new SignedPages();
        Check.row(x, 0, 1, 2, 3);
        x.row(1, 0);
        long before = x.digest();
        Bound.due("none, from the first", x.copy(0, 0, 1, 0, 0), 1);
        Bound.due("none, from behind the last", x.copy(0, 3, 1, 0, 0), 1);
        Bound.due("none, to behind the last", x.copy(1, 0, 0, 3, 0), 1);
        Bound.due("none of an empty row to itself", x.copy(1, 0, 1, 0, 0), 1);
        Bound.due("nothing is changed", x.digest(), before);
    }

    private static void copyBad() {
        Bound.of(6, "BAD");
        SignedPages x = new SignedPages();
        Check.row(x, 0, 1, 2);
        for (int r : Bound.outside(0, 5)) {
            Bound.refused(x, "from row " + r, Bound.BAD, () -> x.copy(r, 0, 0, 0, 1));
            Bound.refused(x, "to row " + r, Bound.BAD, () -> x.copy(0, 0, r, 0, 1));
        }
        Bound.refused(x, "from, ahead of SIZE", Bound.BAD, () -> x.copy(6, 0, 0, 0, -1));
        Bound.refused(x, "to, ahead of SIZE", Bound.BAD, () -> x.copy(0, 0, 6, 0, -1));
        Bound.refused(x, "to, ahead of NOTHING", Bound.BAD, () -> x.copy(1, 0, 6, 0, 1));
    }

    private static void copySize() {
        Bound.of(6, "SIZE: n below 0");
        SignedPages x = new SignedPages();
        Check.row(x, 0, 1, 2);
        for (int n : new int[] {-1, Bound.MIN}) {
            Bound.found(x, "n " + n, Bound.SIZE, () -> x.copy(0, 1, 0, 0, n));
            Bound.found(x, "n " + n + ", ahead of NOTHING", Bound.SIZE, () -> x.copy(1, 0, 2, 0, n));
            Bound.found(x, "n " + n + ", ahead of BEYOND", Bound.SIZE, () -> x.copy(0, 9, 0, 9, n));
        }
    }

    private static void copyNothing() {
        Bound.of(6, "NOTHING: either");
        SignedPages x = new SignedPages();
        Check.row(x, 0, 1, 2);
        Bound.found(x, "from a missing one", Bound.NOTHING, () -> x.copy(1, 0, 0, 0, 1));
        Bound.found(x, "to a missing one", Bound.NOTHING, () -> x.copy(0, 0, 1, 0, 1));
        Bound.found(x, "both: counted once", Bound.NOTHING, () -> x.copy(1, 0, 2, 0, 1));
        Bound.found(x, "a missing one to itself", Bound.NOTHING, () -> x.copy(1, 0, 1, 0, 0));
        Bound.found(x, "none, from a missing one", Bound.NOTHING, () -> x.copy(1, 0, 0, 0, 0));
        Bound.found(x, "from, ahead of BEYOND", Bound.NOTHING, () -> x.copy(1, 9, 0, 9, 9));
        Bound.found(x, "to, ahead of BEYOND", Bound.NOTHING, () -> x.copy(0, 9, 1, 9, 9));
        x.row(1, 5);
        x.tear(1);
        Bound.found(x, "to a torn one", Bound.NOTHING, () -> x.copy(0, 0, 1, 0, 1));
    }

    private static void copyBeyond() {
        Bound.of(6, "BEYOND: not so many there.");
        int[][] calls = {
            {0, 0, 1, 0, 4}, {0, 2, 1, 0, 2}, {0, 3, 1, 0, 1}, {0, -1, 1, 0, 1}, {0, -1, 1, 0, 2}, {0, -1, 1, 0, 0},
            {1, 0, 0, 0, 4}, {1, 0, 0, 2, 2}, {1, 0, 0, 3, 1}, {1, 0, 0, -1, 1}, {1, 0, 0, -1, 0}, {0, 4, 1, 0, 0},
            {1, 0, 0, 4, 0}, {0, 1, 0, 0, 3}, {0, 0, 0, 1, 3}, {0, 0, 1, 0, 41}, {0, 0, 1, 0, Bound.MAX},
            {0, Bound.MAX, 1, 0, Bound.MAX}, {1, 0, 0, Bound.MAX, Bound.MAX}, {0, Bound.MAX, 1, 0, 1},
            {1, 0, 0, Bound.MAX, 1}, {0, Bound.MIN, 1, 0, Bound.MAX}, {1, 0, 0, Bound.MIN, 1}, {2, 0, 0, 0, 1}, {0, 0, 2, 0, 1},
        };
        for (int[] c : calls) {
            SignedPages x = new SignedPages();
            Check.row(x, 0, 1, 2, 3);
            x.row(1, 40);
            x.row(2, 0);
            String what = "copy(" + c[0] + ", " + c[1] + ", " + c[2] + ", " + c[3] + ", " + c[4] + ")";
            Bound.found(x, what, Bound.BEYOND, () -> x.copy(c[0], c[1], c[2], c[3], c[4]));
        }
    }

    private static void meanCut() {
        Bound.of(7, "The mean of a ROW's ints, cut, told by asked(): 1.");
        int[][] rows = {
            {7}, {0}, {Bound.MIN}, {Bound.MAX}, {3, 4}, {-3, -4}, {1, 0}, {-1, 0}, {Bound.MAX, Bound.MIN},
            {Bound.MAX, Bound.MAX}, {Bound.MIN, Bound.MIN}, {Bound.MIN, Bound.MIN, -1}, {5, 5, 6}, {-5, -5, -6}, {-2, -2, 1},
        };
        int[] means = {7, 0, Bound.MIN, Bound.MAX, 3, -3, 0, 0, 0, Bound.MAX, Bound.MIN, -1431655765, 5, -5, -1};
        SignedPages x = new SignedPages();
        for (int i = 0; i < rows.length; i++) {
            Check.row(x, 5, rows[i]);
            Bound.due("mean of row " + i, x.mean(5), 1);
            Bound.due("what the mean of row " + i + " is", x.asked(), means[i]);
        }
        for (int v : new int[] {Bound.MAX, Bound.MIN}) {
            int[] forty = new int[40];
            java.util.Arrays.fill(forty, v);
            Check.row(x, 0, forty);
            Bound.due("mean of forty", x.mean(0), 1);
            Bound.due("what the mean of forty is", x.asked(), v);
        }
    }

    private static void meanBad() {
        Bound.of(7, "BAD");
        SignedPages x = new SignedPages();
        Check.row(x, 0, 8);
        Check.row(x, 5, 8);
        for (int r : Bound.outside(0, 5)) {
            Bound.refused(x, "row " + r, Bound.BAD, () -> x.mean(r));
        }
    }

    private static void meanNothing() {
        Bound.of(7, "NOTHING");
        SignedPages x = new SignedPages();
        Bound.found(x, "missing at first", Bound.NOTHING, () -> x.mean(0));
        x.row(0, 3);
        x.tear(0);
        Bound.found(x, "torn", Bound.NOTHING, () -> x.mean(0));
    }

    private static void meanNought() {
        Bound.of(7, "NOUGHT.");
        SignedPages x = new SignedPages();
        Check.row(x, 0, 9);
        x.mean(0);
        x.row(0, 0);
        Bound.found(x, "of none", Bound.NOUGHT, () -> x.mean(0));
        x.row(5, 0);
        Bound.found(x, "of none, again", Bound.NOUGHT, () -> x.mean(5));
    }

    private static void textIsThere() {
        Bound.of(8, "A TEXT is there with n blanks: n.");
        SignedPages x = new SignedPages();
        for (int n : new int[] {0, 1, 39, 40}) {
            Bound.due("text(3, " + n + ")", x.text(3, n), n);
            for (int i = 0; i < n; i++) {
                Bound.due("byte " + i + " of " + n, x.put(3, i, 'R'), 1032);
            }
            Bound.due("ends behind " + n, x.put(3, n, 'R'), SignedPages.FINDING);
            Bound.due("is there", x.finding(), Bound.BEYOND);
        }
        Bound.due("shorter", x.text(3, 1), 1);
        Bound.due("longer again", x.text(3, 40), 40);
        Bound.due("what was behind is a blank", x.put(3, 39, 0), 1032);
    }

    private static void textBad() {
        Bound.of(8, "BAD: also n above 40");
        SignedPages x = new SignedPages();
        Check.text(x, 0, "RH");
        for (int n : new int[] {41, 42, Bound.MAX}) {
            Bound.refused(x, "a text there, n " + n, Bound.BAD, () -> x.text(0, n));
            Bound.refused(x, "a missing text, n " + n, Bound.BAD, () -> x.text(1, n));
        }
        for (int t : Bound.outside(0, 3)) {
            Bound.refused(x, "text " + t + ", none", Bound.BAD, () -> x.text(t, 0));
            Bound.refused(x, "text " + t + ", ahead of SIZE", Bound.BAD, () -> x.text(t, -1));
        }
    }

    private static void textSize() {
        Bound.of(8, "SIZE: below 0.");
        SignedPages x = new SignedPages();
        Check.text(x, 0, "RH");
        for (int n : new int[] {-1, Bound.NONE, -41, Bound.MIN}) {
            Bound.found(x, "a text there, n " + n, Bound.SIZE, () -> x.text(0, n));
            Bound.found(x, "a missing text, n " + n, Bound.SIZE, () -> x.text(3, n));
        }
    }

    private static void putCut() {
        Bound.of(9, "Byte i of a TEXT is v, cut to a byte: what it was, and 1000 more.");
        int[] values = {0, 127, 128, 255, 256, 257, 82 + 256, -1, -128, -129, -256, Bound.MAX, Bound.MIN, 65536 + 200};
        int[] bytes = {0, 127, -128, -1, 0, 1, 82, -1, -128, 127, 0, -1, 0, -56};
        SignedPages x = new SignedPages();
        x.text(2, 40);
        for (int i : new int[] {0, 39}) {
            int was = 32;
            for (int k = 0; k < values.length; k++) {
                Bound.due("put " + values[k] + " at " + i, x.put(2, i, values[k]), was + 1000);
                was = bytes[k];
            }
            Bound.due("the last one at " + i, x.put(2, i, 32), was + 1000);
        }
        Bound.due("the byte beside", x.put(2, 1, 0), 1032);
        Bound.due("the byte beside", x.put(2, 38, 0), 1032);
    }

    private static void putBad() {
        Bound.of(9, "BAD");
        SignedPages x = new SignedPages();
        Check.text(x, 0, "R");
        Check.text(x, 3, "R");
        for (int t : Bound.outside(0, 3)) {
            Bound.refused(x, "text " + t, Bound.BAD, () -> x.put(t, 0, 1));
            Bound.refused(x, "text " + t + ", ahead of BEYOND", Bound.BAD, () -> x.put(t, -1, 1));
        }
    }

    private static void putNothing() {
        Bound.of(9, "NOTHING");
        SignedPages x = new SignedPages();
        Bound.found(x, "missing", Bound.NOTHING, () -> x.put(0, 0, 1));
        Bound.found(x, "ahead of BEYOND", Bound.NOTHING, () -> x.put(3, 40, 1));
    }

    private static void putBeyond() {
        Bound.of(9, "BEYOND.");
        SignedPages x = new SignedPages();
        x.text(0, 40);
        Check.text(x, 1, "RH");
        x.text(2, 0);
        for (int i : new int[] {-1, 2, 39, Bound.MIN, Bound.MAX}) {
            Bound.found(x, "byte " + i + " of two", Bound.BEYOND, () -> x.put(1, i, 7));
        }
        Bound.found(x, "byte 40 of forty", Bound.BEYOND, () -> x.put(0, 40, 7));
        Bound.found(x, "byte 0 of none", Bound.BEYOND, () -> x.put(2, 0, 7));
    }

    private static void laterDays() {
        Bound.of(10, "TODAY is n days later: it.");
        SignedPages x = new SignedPages();
        int[] steps = {0, 1, 0, 997, 1, 0};
        int today = 0;
        for (int n : steps) {
            today += n;
            Bound.due("later(" + n + ")", x.later(n), today);
            Bound.due("today", x.count(0), today);
        }
        Bound.due("all at once", new SignedPages().later(999), 999);
    }

    private static void laterBad() {
        Bound.of(10, "BAD: below 0, or beyond 999.");
        int[] days = {0, 500, 999};
        for (int day : days) {
            SignedPages x = new SignedPages();
            x.later(day);
            for (int n : new int[] {-1, Bound.MIN, 1000 - day, Bound.MAX, Bound.MAX - day}) {
                IntSupplier call = () -> x.later(n);
                Bound.refused(x, "later(" + n + ") on day " + day, Bound.BAD, call);
            }
        }
    }
}
