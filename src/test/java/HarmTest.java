import java.util.Random;

/** Promises 33 to 36, 40 and 41: harms by stolen keys and askings, beside every set tried one by one. */
public final class HarmTest {
    private static final int BAD = SignedPages.BAD, STATE = SignedPages.STATE, NONE = SignedPages.NONE;
    private static final int NOTHING = 1, UNLIKE = 3, SIZE = 5;
    private static final int R = 0, H = 1, T = 2, L = 3, N = 4;

    private HarmTest() {
    }

    public static void main(String[] args) {
        refused();
        harmsByHand();
        harmsBesideAllSets();
        shares();
        askingsByHand();
        askingsBesideAll();
        Check.end();
    }

    private static void refused() {
        SignedPages x = new SignedPages();
        x.note(1, 1);
        Check.due("harm: page", x.harm(0, 1, 0, 0), BAD);
        Check.due("harm: which", x.harm(4, 0, 0, 0), BAD);
        Check.due("harm: which below", x.harm(-1, 0, 0, 0), BAD);
        Check.due("harm: text", x.harm(0, 0, 4, 0), BAD);
        Check.due("harm: keys", x.harm(0, 0, 0, 1024), BAD);
        Check.due("harm: keys below", x.harm(0, 0, 0, -1), BAD);
        Check.due("least: which", x.least(4, 0, 0), BAD);
        Check.due("least: page", x.least(0, -1, 0), BAD);
        Check.due("share: n", x.share(0, 0, 0, 11), BAD);
        Check.due("share: n below", x.share(0, 0, 0, -1), BAD);
        Check.dueFinding(x, "harm: missing", 0, x.harm(0, 0, 0, 0), NOTHING);
        Check.dueFinding(x, "least: missing", 1, x.least(0, 0, 0), NOTHING);
        Check.dueFinding(x, "share: missing", 2, x.share(0, 0, 0, 0), NOTHING);
        x.text(0, 1);
        Check.dueFinding(x, "harm: no ROOT, ahead of the FAULT", 0, x.harm(0, 0, 0, 0), UNLIKE);
        Check.dueFinding(x, "least: no ROOT", 1, x.least(0, 0, 0), UNLIKE);
        Check.dueFinding(x, "share: no ROOT", 2, x.share(0, 0, 0, 0), UNLIKE);
        int root = Check.root(x, 1, 1, 0, 1, 1, 1, 1, 1, 1, 1, 1, 1, 1);
        Check.due("harm: FAULT", x.harm(0, root, 0, 0), STATE);
        Check.due("least: FAULT", x.least(0, root, 0), STATE);
        Check.due("share: FAULT", x.share(0, root, 0, 0), STATE);
        Check.due("upper stays", x.upper(), 0);
        Check.due("lower stays", x.lower(), 1);
    }

    /** Each ROLE has one KEY of its own: ROOT 1, HOUR 2, TOGETHER 4, LIST 8, LENT 16. */
    private static void harmsByHand() {
        SignedPages x = new SignedPages();
        int root = Check.root(x, 1, 1, 0, 1, 1, 2, 1, 4, 1, 8, 1, 16, 1);
        Object[][] due = {
            {0, "RHTLNod", 1, 1}, {0, "HTLNod", 1, 0}, {0, "HTL", 14, 1}, {0, "HTL", 12, 0}, {0, "HTL", 10, 0},
            {0, "TL", 12, 1}, {0, "TL", 8, 0}, {0, "L", 8, 1}, {0, "L", 7, 0}, {0, "HTL", 8, 0}, {0, "HTL", 6, 0},
            {0, "HL", 8, 1}, {0, "HL", 10, 1}, {0, "HL", 2, 0}, {0, "LHod", 8, 1}, {0, "HLN", 16, 0},
            {0, "RHTN", 0, 1}, {0, "HTLN", 22, 0},
            {1, "HTLod", 2, 0}, {1, "HTLd", 2, 1}, {1, "HTLd", 0, 0}, {1, "HTL", 0, 1}, {1, "TLd", 0, 1}, {1, "TLod", 0, 0},
            {1, "TLod", 12, 1}, {1, "HLod", 8, 1}, {1, "HLod", 2, 0},
            {2, "HTLN", 22, 1}, {2, "HTLN", 20, 0}, {2, "TLN", 20, 1}, {2, "LN", 16, 1}, {2, "L", 16, 0}, {2, "HTL", 14, 1},
            {2, "HLN", 16, 1}, {2, "HLN", 8, 1}, {2, "HLN", 2, 0}, {2, "HL", 16, 0}, {2, "HTLN", 18, 0},
            {3, "HTLd", 0, 0}, {3, "HTLod", 2, 1}, {3, "HTLo", 0, 1}, {3, "TLd", 0, 1}, {3, "RHTLd", 1, 1},
            {3, "HLd", 8, 1}, {3, "HLd", 0, 0},
        };
        for (Object[] one : due) {
            Check.text(x, 0, (String) one[1]);
            Check.due("harm " + one[0] + " " + one[1] + " by " + one[2],
                x.harm((Integer) one[0], root, 0, (Integer) one[2]), (Integer) one[3]);
        }
        Check.text(x, 0, "HTL");
        Check.due("least", x.least(0, root, 0), 128);
        Check.due("the least set", x.asked(), 14);
        greatLeastSets(x);
    }

    /** A LEAST set may need nine KEYS, or all ten. */
    private static void greatLeastSets(SignedPages x) {
        int ten = Check.root(x, 1, 1, 0, 1023, 10, 1023, 10, 1023, 10, 1023, 10, 1023, 10);
        Check.due("least by all KEYS", x.least(0, ten, 0), 1);
        Check.due("all KEYS", x.asked(), 1023);
        int nine = Check.root(x, 1, 1, 0, 1023, 9, 1023, 9, 1023, 9, 1023, 9, 1023, 9);
        Check.due("least by nine KEYS", x.least(0, nine, 0), 11);
        Check.due("of alike ones the least bits", x.asked(), 511);
    }

    private static void harmsBesideAllSets() {
        Random random = new Random(1);
        for (int run = 0; run < 150; run++) {
            SignedPages x = new SignedPages();
            int[] pairs = randomPairs(random);
            int root = Check.root(x, 1, 1, 0, pairs);
            String letters = randomLetters(random);
            Check.text(x, 0, letters);
            for (int which = 0; which < 4; which++) {
                int sets = 0;
                int least = NONE;
                int[] bySize = new int[11];
                for (int set = 0; set < 1024; set++) {
                    boolean does = harms(which, letters, pairs, set);
                    if (set % 37 == 0) {
                        Check.due("harm", x.harm(which, root, 0, set), does ? 1 : 0);
                    }
                    if (does) {
                        sets++;
                        bySize[Integer.bitCount(set)]++;
                        least = least == NONE || Integer.bitCount(set) < Integer.bitCount(least) ? set : least;
                    }
                }
                Check.due("least " + letters, x.least(which, root, 0), sets);
                Check.due("the least set " + letters, x.asked(), least);
                int n = random.nextInt(11);
                Check.due("share " + letters, x.share(which, root, 0, n), bySize[n]);
                Check.due("the fraction", x.upper() * choose(n), x.lower() * bySize[n]);
                Check.due("asked stays", x.asked(), least);
            }
        }
    }

    private static void shares() {
        SignedPages x = new SignedPages();
        int root = Check.root(x, 1, 1, 0, 1, 1, 2, 1, 4, 1, 8, 1, 16, 1);
        Check.text(x, 0, "L");
        dueShare(x, root, 0, 0, 0, 1);
        dueShare(x, root, 1, 1, 1, 10);
        dueShare(x, root, 2, 9, 1, 5);
        dueShare(x, root, 5, 126, 1, 2);
        dueShare(x, root, 10, 1, 1, 1);
    }

    private static void dueShare(SignedPages x, int root, int n, int many, int upper, int lower) {
        Check.due("share of " + n, x.share(0, root, 0, n), many);
        Check.due("share of " + n + ": upper", x.upper(), upper);
        Check.due("share of " + n + ": lower", x.lower(), lower);
    }

    private static void askingsByHand() {
        SignedPages x = new SignedPages();
        int root = Check.root(x, 1, 1, 0, 15, 1, 48, 1, 192, 1, 768, 1, 1, 1);
        int note = x.note(1, 1);
        Check.due("askings: page", x.askings(2, 0, 0, 0), BAD);
        Check.due("askings: there", x.askings(root, 1024, 0, 0), BAD);
        Check.due("askings: c", x.askings(root, 0, 5, 0), BAD);
        Check.due("askings: c below", x.askings(root, 0, -1, 0), BAD);
        Check.due("askings: row", x.askings(root, 0, 0, 6), BAD);
        Check.dueFinding(x, "askings: missing", 0, x.askings(note, 0, 0, 0), NOTHING);
        x.row(0, 5);
        Check.dueFinding(x, "askings: size", 0, x.askings(note, 0, 0, 0), SIZE);
        Check.row(x, 0, 1, 10, 5, 100);
        Check.dueFinding(x, "askings: price", 0, x.askings(root, 0, 0, 0), UNLIKE);
        Check.row(x, 0, 1, 10, 5, -1);
        Check.dueFinding(x, "askings: price below", 1, x.askings(root, 0, 0, 0), UNLIKE);
        Check.row(x, 0, 1, 10, 5, 20);
        Check.dueFinding(x, "askings: no ROOT", 2, x.askings(note, 0, 0, 0), UNLIKE);
        Check.due("askings: nobody is there", x.askings(root, 0, 0, 0), NONE);
        Check.due("asked stays", x.asked(), 0);
        Check.due("askings: no LIST there", x.askings(root, 255, 0, 0), NONE);
        Check.due("askings by all, none stolen", x.askings(root, 1023, 0, 0), 36);
        Check.due("one of each", x.asked(), 1111);
        Check.due("askings by all, two stolen", x.askings(root, 1023, 2, 0), 38);
        Check.due("three of ROOT, the others have no KEY in common", x.asked(), 3111);
        Check.due("askings by all, three stolen", x.askings(root, 1023, 3, 0), 44);
        Check.due("four of ROOT, and TOGETHER twice, as it is cheapest", x.asked(), 4121);
        Check.due("askings: three of ROOT there", x.askings(root, 1022, 3, 0), NONE);
        Check.due("four stolen", x.askings(root, 1023, 4, 0), NONE);
        Check.due("asked stays", x.asked(), 4121);
        x.row(0, 4);
        Check.due("askings for nothing", x.askings(root, 1023, 3, 0), 0);
        Check.due("of alike ones the first by ROLES", x.asked(), 4112);
    }

    private static void askingsBesideAll() {
        Random random = new Random(2);
        for (int run = 0; run < 120; run++) {
            SignedPages x = new SignedPages();
            int[] pairs = randomPairs(random);
            int root = Check.root(x, 1, 1, 0, pairs);
            int there = run % 3 == 0 ? random.nextInt(1024) : 1023 & ~(1 << random.nextInt(11));
            int c = random.nextInt(5);
            int[] prices = new int[4];
            for (int i = 0; i < 4; i++) {
                prices[i] = random.nextInt(run % 2 == 0 ? 3 : 100);
            }
            Check.row(x, 0, prices);
            int before = x.asked();
            int[] best = cheapest(pairs, there, c, prices);
            Check.due("askings", x.askings(root, there, c, 0), best[0]);
            Check.due("askings by", x.asked(), best[0] == NONE ? before : best[1]);
        }
    }

    /** The price and the numbers of the cheapest askings, by trying all of them with all sets. */
    private static int[] cheapest(int[] pairs, int there, int c, int[] prices) {
        int[] best = {NONE, 0};
        for (int digits = 0; digits < 256; digits++) {
            int[] many = {digits / 64 + 1, digits / 16 % 4 + 1, digits / 4 % 4 + 1, digits % 4 + 1};
            int price = 0;
            boolean fits = true;
            int[] tried = pairs.clone();
            for (int role = 0; role < 4; role++) {
                price += many[role] * prices[role];
                fits &= many[role] <= Integer.bitCount(pairs[2 * role] & there);
                tried[2 * role + 1] = many[role];
            }
            for (int set = 0; fits && set < 1024; set++) {
                fits = Integer.bitCount(set) > c || !harms(0, "RHTL", tried, set);
            }
            if (fits && (best[0] == NONE || price < best[0])) {
                best = new int[] {price, many[0] * 1000 + many[1] * 100 + many[2] * 10 + many[3]};
            }
        }
        return best;
    }

    private static boolean harms(int which, String letters, int[] pairs, int set) {
        boolean[] made = new boolean[5];
        for (int role = 0; role < 5; role++) {
            made[role] = Integer.bitCount(pairs[2 * role] & set) >= pairs[2 * role + 1];
        }
        boolean noH = letters.indexOf('H') < 0;
        boolean noT = letters.indexOf('T') < 0;
        boolean noDays = letters.indexOf('d') < 0;
        // Without T no name of a list is looked at, whether H is asked or not.
        boolean ways = noT || made[T] && (noH || made[H]);
        boolean any = letters.indexOf('L') < 0 || letters.indexOf('R') >= 0 && made[R] || made[L] && ways;
        boolean still = noDays || noH || made[H];
        boolean[] does = {
            any,
            any || letters.indexOf('o') < 0 && still,
            any || letters.indexOf('N') >= 0 && made[N] && ways,
            any || still,
        };
        return does[which];
    }

    private static int[] randomPairs(Random random) {
        int[] pairs = new int[10];
        for (int role = 0; role < 5; role++) {
            pairs[2 * role] = 1 + random.nextInt(1023);
            pairs[2 * role + 1] = 1 + random.nextInt(Integer.bitCount(pairs[2 * role]));
        }
        return pairs;
    }

    private static String randomLetters(Random random) {
        StringBuilder letters = new StringBuilder();
        while (letters.length() == 0) {
            for (char letter : "RHTLN".toCharArray()) {
                if (random.nextInt(4) > 0) {
                    letters.insert(random.nextInt(letters.length() + 1), letter);
                }
            }
        }
        for (char letter : "odw".toCharArray()) {
            if (random.nextBoolean()) {
                letters.append(letter);
            }
        }
        return letters.toString();
    }

    private static long choose(int n) {
        long ways = 1;
        for (int i = 0; i < n; i++) {
            ways = ways * (10 - i) / (i + 1);
        }
        return ways;
    }
}
