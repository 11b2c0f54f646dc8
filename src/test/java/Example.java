/** The example of README.md: a machine that is sent a file, a key that is stolen, calls that are refused. */
public final class Example {
    private static final int NONE = SignedPages.NONE;

    private Example() {
    }

    public static void main(String[] args) {
        SignedPages x = new SignedPages();

        // A ROOT by a ROW of ten: of ROOT, HOUR, TOGETHER, LIST and LENT the keys as bits, and how many of them sign.
        layRow(x, 0, 7, 2, 8, 1, 16, 1, 96, 2, 128, 1);
        int root = x.root(1, 500, 0);
        // A LIST by pairs: file 0 has the sum 11. What names it, and what names that.
        layRow(x, 1, 0, 11);
        int list = x.list(1, 300, 1, 0, false);
        int together = x.together(1, 200, list, NONE);
        int hour = x.hour(1, 100, together);
        x.sign(together, 16);
        x.sign(hour, 8);
        x.sign(list, 32);
        tell("good(list, root) by one key", x.good(list, root));
        x.sign(list, 64);
        tell("good(list, root) by two", x.good(list, root));

        // A machine that asks R, H, T, L and looks at numbers and days, and the copies that it is shown.
        putText(x, 0, "RHTLod");
        tell("machine(0, 0, root)", x.machine(0, 0, root));
        layRow(x, 2, NONE, hour, together, list, NONE);
        tell("ask(0, 2)", x.ask(0, 2));
        tell("offer(0, 0, 12)", x.offer(0, 0, 12));
        tell("offer(0, 0, 11)", x.offer(0, 0, 11));
        tell("runs(0, 0)", x.runs(0, 0));
        x.later(150);
        tell("ask(0, 2) on day 150", x.ask(0, 2));

        // Whether key 3, stolen, lets it run what the thief wants; the least set of keys that does.
        tell("harm(0, root, 0, 8)", x.harm(0, root, 0, 8));
        tell("least(0, root, 0)", x.least(0, root, 0));
        tell("asked()", x.asked());

        // Refused: a page of number 0; a row that is missing.
        tell("note(0, 0)", x.note(0, 0));
        tell("at(5, 0)", x.at(5, 0));
        tell("finding()", x.finding());
    }

    private static void layRow(SignedPages x, int r, int... places) {
        x.row(r, places.length);
        for (int i = 0; i < places.length; i++) {
            x.lay(r, i, places[i]);
        }
    }

    private static void putText(SignedPages x, int t, String letters) {
        x.text(t, letters.length());
        for (int i = 0; i < letters.length(); i++) {
            x.put(t, i, letters.charAt(i));
        }
    }

    private static void tell(String call, long answer) {
        System.out.println(call + ": " + answer);
    }
}
