import java.io.IOException;
import java.nio.file.Files;
import java.nio.file.Path;
import java.util.ArrayList;
import java.util.LinkedHashMap;
import java.util.List;
import java.util.Map;
import java.util.function.IntSupplier;

/** What the tests of boundaries share: the sentence that a test is for, and calls that are due to be refused. */
final class Bound {
    static final String TERMS = "Terms", WHAT_IT_IS = "What it is";
    static final int BAD = SignedPages.BAD, FULL = SignedPages.FULL, STATE = SignedPages.STATE, NONE = SignedPages.NONE;
    static final int NOTHING = 1, BEYOND = 2, UNLIKE = 3, NOUGHT = 4, SIZE = 5;
    static final int MIN = Integer.MIN_VALUE, MAX = Integer.MAX_VALUE;
    /** A ROW for a ROOT each of whose ROLES has one KEY of its own: ROOT 1, HOUR 2, TOGETHER 4, LIST 8, LENT 16. */
    static final int[] ONE_EACH = {1, 1, 2, 1, 4, 1, 8, 1, 16, 1};
    /** A ROW for a ROOT of which KEY 0 makes all ROLES. */
    static final int[] KEY_0 = {1, 1, 1, 1, 1, 1, 1, 1, 1, 1};
    /** The pages of world(). */
    static final int ROOT = 0, LIST = 1, LENT = 2, TOGETHER = 3, HOUR = 4;

    private static final Map<String, List<String>> QUOTES = new LinkedHashMap<>();
    private static String about = "";

    private Bound() {
    }

    /** What is due from here on is due by this sentence of the document. */
    static void of(String section, String sentence) {
        QUOTES.computeIfAbsent(section, s -> new ArrayList<>()).add(sentence);
        about = section + ", '" + sentence + "': ";
    }

    static void of(int promise, String sentence) {
        of("Promise " + promise, sentence);
    }

    static void due(String what, long got, long want) {
        Check.due(about + what, got, want);
    }

    /** A call that is answered by BAD, FULL or STATE and changes nothing at all. */
    static void refused(SignedPages x, String what, int answer, IntSupplier call) {
        long[] before = told(x);
        due(what, call.getAsInt(), answer);
        dueSame(what, before, told(x));
    }

    /** A call that is answered by a FINDING and changes nothing but finding() and findings(). */
    static void found(SignedPages x, String what, int finding, IntSupplier call) {
        long[] before = told(x);
        due(what, call.getAsInt(), SignedPages.FINDING);
        before[4] = finding;
        before[4 + finding]++;
        dueSame(what, before, told(x));
    }

    private static long[] told(SignedPages x) {
        return new long[] {x.digest(), x.asked(), x.upper(), x.lower(), x.finding(),
            x.findings(1), x.findings(2), x.findings(3), x.findings(4), x.findings(5)};
    }

    private static void dueSame(String what, long[] before, long[] now) {
        String[] names = {"digest()", "asked()", "upper()", "lower()", "finding()",
            "findings(1)", "findings(2)", "findings(3)", "findings(4)", "findings(5)"};
        for (int i = 0; i < names.length; i++) {
            due(what + ", then " + names[i], now[i], before[i]);
        }
    }

    static int[] outside(int least, int most) {
        return new int[] {least - 1, most + 1, MIN, MAX};
    }

    static void dueRow(SignedPages x, int r, int... places) {
        for (int i = 0; i < places.length; i++) {
            due("place " + i + " of row " + r, x.at(r, i), 1);
            due("what place " + i + " of row " + r + " is", x.asked(), places[i]);
        }
        due("row " + r + " ends behind " + places.length, x.at(r, places.length), SignedPages.FINDING);
        due("row " + r + " is there", x.finding(), BEYOND);
    }

    /** Five pages, all signed by key 0, that every machine takes on day 0; row 0 has them as copies. */
    static SignedPages world() {
        SignedPages x = new SignedPages();
        Check.root(x, 1, 500, 1, KEY_0);
        Check.list(x, 5, 500, 1, 6, false, 0, 10, 2, 12);
        Check.list(x, 5, 500, 1, 0, true, 1, 11);
        Check.signed(x, x.together(5, 500, LIST, LENT), 1);
        Check.signed(x, x.hour(5, 500, TOGETHER), 1);
        Check.row(x, 0, ROOT, HOUR, TOGETHER, LIST, LENT);
        return x;
    }

    static SignedPages fullOfNotes() {
        SignedPages x = new SignedPages();
        addNotes(x);
        return x;
    }

    static void addNotes(SignedPages x) {
        for (int p = x.count(1); p < 40; p++) {
            due("page " + p, x.note(1, 0), p);
        }
    }

    static void begin(SignedPages x, int m, String letters) {
        Check.text(x, 3, letters);
        due("machine '" + letters + "'", x.machine(m, 3, ROOT), letters.replaceAll("[^A-Z]", "").length());
    }

    /** Each quote stands in the document, and the quotes of a section leave no word of it out. */
    static void dueWholeDocument() throws IOException {
        Path document = Path.of("../shared/DOC.md");
        if (!Files.exists(document)) {
            System.out.println("there is no " + document + ": quotes are not looked up");
            return;
        }
        about = "";
        Map<String, String> sections = sectionsOf(Files.readString(document));
        for (Map.Entry<String, List<String>> quotes : QUOTES.entrySet()) {
            due("section " + quotes.getKey(), sections.containsKey(quotes.getKey()) ? 1 : 0, 1);
        }
        for (int promise = 1; promise <= 45; promise++) {
            dueQuoted("Promise " + promise, sections, true);
        }
        dueQuoted(TERMS, sections, true);
        dueQuoted(WHAT_IT_IS, sections, false);
    }

    private static Map<String, String> sectionsOf(String document) {
        Map<String, String> sections = new LinkedHashMap<>();
        for (String section : document.split("\n## ")) {
            int headEnd = section.indexOf('\n');
            String heading = section.substring(0, headEnd);
            String body = section.substring(headEnd);
            if (heading.startsWith("Promise ")) {
                heading = heading.substring(0, heading.indexOf(':'));
                body = body.substring(body.indexOf("`: ") + 3);
            }
            if (body.contains("Ahead of the calls")) {
                body = body.substring(0, body.indexOf("Ahead of the calls"));
            }
            sections.put(heading, body.replaceAll("```(text)?|======== \\d", " ").replaceAll("\\s+", " "));
        }
        return sections;
    }

    private static void dueQuoted(String section, Map<String, String> sections, boolean whole) {
        String text = sections.getOrDefault(section, "");
        StringBuilder rest = new StringBuilder(text);
        for (String quote : QUOTES.getOrDefault(section, List.of())) {
            int from = text.indexOf(quote);
            due(section + " says '" + quote + "'", from >= 0 ? 1 : 0, 1);
            for (; from >= 0; from = text.indexOf(quote, from + 1)) {
                rest.replace(from, from + quote.length(), ".".repeat(quote.length()));
            }
        }
        String words = rest.toString().replaceAll("\\.\\.+", " | ");
        due(section + " has words that no test quotes: " + words, whole && words.matches(".*\\w.*") ? 1 : 0, 0);
    }
}
