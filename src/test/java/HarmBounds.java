/** Boundaries of promises 33 to 36, and of the Terms on stolen keys, askings and fractions. */
final class HarmBounds {
    private static final int[] ALL_KEYS = {1023, 10, 1023, 10, 1023, 10, 1023, 10, 1023, 10};

    private HarmBounds() {
    }

    static void all() {
        termsMade();
        termsHarm0();
        termsHarm1();
        termsHarm2();
        termsHarm3();
        termsLeast();
        termsAskings();
        termsNoHarm();
        termsCheapest();
        termsFractions();
        harm();
        harmBad();
        harmNothing();
        harmUnlike();
        harmState();
        least();
        leastRefused();
        share();
        shareRefused();
        askings();
        askingsNone();
        askingsBad();
        askingsNothing();
        askingsSize();
        askingsUnlike();
    }

    /** Text 0 has the letters; page 0 is a ROOT by the pairs. */
    private static SignedPages thief(String letters, int... pairs) {
        SignedPages x = new SignedPages();
        Check.root(x, 1, 1, 0, pairs);
        Check.text(x, 0, letters);
        return x;
    }

    private static void dueHarm(int which, String letters, int keys, int answer) {
        SignedPages x = thief(letters, Bound.ONE_EACH);
        Bound.due("harm " + which + " of '" + letters + "' by " + keys, x.harm(which, 0, 0, keys), answer);
    }

    private static void termsMade() {
        Bound.of(Bound.TERMS, "STOLEN KEYS: a ROLE is MADE by a set, if it has as MANY of the ROOT's KEYS of it at least.");
        SignedPages x = thief("L", 1, 1, 1, 1, 1, 1, 896, 2, 1, 1);
        int[] sets = {0, 127, 128, 512, 128 + 127, 384, 640, 768, 896, 1023};
        int[] made = {0, 0, 0, 0, 0, 1, 1, 1, 1, 1};
        for (int i = 0; i < sets.length; i++) {
            Bound.due("LIST by " + sets[i], x.harm(0, 0, 0, sets[i]), made[i]);
        }
        SignedPages y = thief("RL", 7, 3, 1, 1, 1, 1, 1023, 10, 1, 1);
        int[] rootSets = {0, 3, 5, 6, 7, 15, 1023, 1016};
        int[] rootMade = {0, 0, 0, 0, 1, 1, 1, 0};
        for (int i = 0; i < rootSets.length; i++) {
            Bound.due("ROOT by " + rootSets[i], y.harm(0, 0, 0, rootSets[i]), rootMade[i]);
        }
    }

    private static void termsHarm0() {
        Bound.of(Bound.TERMS, "HARMS by a ROOT, a TEXT of a MACHINE, a set: 0 it RUNS what the thief wants: it asks no L; "
            + "or it asks R, and ROOT is MADE; or LIST is MADE, and (it asks no T, or TOGETHER is MADE, and it asks no H, or HOUR is MADE).");
        for (String letters : new String[] {"R", "H", "T", "N", "RHTNodw"}) {
            dueHarm(0, letters, 0, 1);
        }
        dueHarm(0, "RHTLNodw", 0, 0);
        dueHarm(0, "RHTLNodw", 1, 1);
        dueHarm(0, "HTLN", 1, 0);
        dueHarm(0, "L", 0, 0);
        dueHarm(0, "L", 8, 1);
        dueHarm(0, "L", 1023 - 8, 0);
        dueHarm(0, "HL", 8, 1);
        dueHarm(0, "HL", 2, 0);
        dueHarm(0, "TL", 8, 0);
        dueHarm(0, "TL", 4, 0);
        dueHarm(0, "TL", 12, 1);
        dueHarm(0, "HTL", 12, 0);
        dueHarm(0, "HTL", 10, 0);
        dueHarm(0, "HTL", 6, 0);
        dueHarm(0, "HTL", 14, 1);
        dueHarm(0, "HTLN", 1023 - 8, 0);
        dueHarm(0, "HTLN", 1023 - 2, 0);
        dueHarm(0, "HTLN", 1023 - 4, 0);
    }

    private static void termsHarm1() {
        Bound.of(Bound.TERMS, "1 it RUNS older ones: HARM 0, or it does not look at NUMBERS, and: it does not look at DAYS, or asks no H, or HOUR is MADE.");
        dueHarm(1, "R", 0, 1);
        dueHarm(1, "Rod", 0, 1);
        dueHarm(1, "HLod", 8, 1);
        dueHarm(1, "HL", 0, 1);
        dueHarm(1, "HLo", 0, 0);
        dueHarm(1, "HLd", 0, 0);
        dueHarm(1, "HLd", 2, 1);
        dueHarm(1, "HLod", 2, 0);
        dueHarm(1, "Ld", 0, 1);
        dueHarm(1, "Lod", 0, 0);
        dueHarm(1, "HTLd", 1023 - 2 - 8, 0);
    }

    private static void termsHarm2() {
        Bound.of(Bound.TERMS, "2 it RUNS what the thief wants of lent FILES: HARM 0, or it asks N, LENT is MADE, "
            + "and (no T, or TOGETHER is MADE, and no H, or HOUR MADE).");
        dueHarm(2, "R", 0, 1);
        dueHarm(2, "L", 8, 1);
        dueHarm(2, "L", 16, 0);
        dueHarm(2, "LN", 0, 0);
        dueHarm(2, "LN", 16, 1);
        dueHarm(2, "HLN", 16, 1);
        dueHarm(2, "HLN", 2, 0);
        dueHarm(2, "TLN", 16, 0);
        dueHarm(2, "TLN", 20, 1);
        dueHarm(2, "HTLN", 20, 0);
        dueHarm(2, "HTLN", 18, 0);
        dueHarm(2, "HTLN", 6, 0);
        dueHarm(2, "HTLN", 22, 1);
        dueHarm(2, "HTL", 22, 0);
    }

    private static void termsHarm3() {
        Bound.of(Bound.TERMS, "3 it stands still for ever: it does not look at DAYS, or asks no H, or HOUR is MADE, or HARM 0.");
        dueHarm(3, "HL", 0, 1);
        dueHarm(3, "HLow", 0, 1);
        dueHarm(3, "Ld", 0, 1);
        dueHarm(3, "HLd", 0, 0);
        dueHarm(3, "HLod", 2, 1);
        dueHarm(3, "HLd", 8, 1);
        dueHarm(3, "RHLd", 1, 1);
        dueHarm(3, "HLd", 1, 0);
        dueHarm(3, "HTd", 0, 1);
    }

    private static void termsLeast() {
        Bound.of(Bound.TERMS, "LEAST: the set with the fewest KEYS that does a HARM, of alike ones the least bits.");
        SignedPages fewest = thief("RL", 512, 1, 1, 1, 1, 1, 3, 2, 1, 1);
        fewest.least(0, 0, 0);
        Bound.due("one key of great bits ahead of two of few", fewest.asked(), 512);
        SignedPages alike = thief("L", 1, 1, 1, 1, 1, 1, 992, 1, 1, 1);
        alike.least(0, 0, 0);
        Bound.due("of five alike ones", alike.asked(), 32);
        SignedPages two = thief("L", 1, 1, 1, 1, 1, 1, 896, 2, 1, 1);
        two.least(0, 0, 0);
        Bound.due("of three pairs", two.asked(), 384);
        SignedPages none = thief("R", ALL_KEYS);
        none.told(0, 1);
        none.least(0, 0, 0);
        Bound.due("the empty set", none.asked(), 0);
        SignedPages ten = thief("HTL", ALL_KEYS);
        ten.least(0, 0, 0);
        Bound.due("all keys", ten.asked(), 1023);
    }

    private static void dueAskings(SignedPages x, int there, int c, int price, int many) {
        Bound.due("askings of " + there + " with " + c + " stolen", x.askings(0, there, c, 0), price);
        Bound.due("how many of each", x.asked(), many);
    }

    private static SignedPages prices(int[] prices, int... pairs) {
        SignedPages x = new SignedPages();
        Check.root(x, 1, 1, 0, pairs);
        Check.row(x, 0, prices);
        return x;
    }

    private static void termsAskings() {
        Bound.of(Bound.TERMS, "ASKINGS: how MANY of each of four ROLES (ROOT, HOUR, TOGETHER, LIST; 1 .. as many KEYS as it has, 4 at most): "
            + "so that a set of KEYS that are there can sign each of these four");
        SignedPages one = prices(new int[] {1, 1, 1, 1}, Bound.KEY_0);
        dueAskings(one, 1, 0, 4, 1111);
        Bound.due("KEY 0 is not there", one.askings(0, 1022, 0, 0), Bound.NONE);
        Bound.due("nobody is there", one.askings(0, 0, 0, 0), Bound.NONE);
        Bound.due("ROOT has one key, two would be due", one.askings(0, 1023, 1, 0), Bound.NONE);
        SignedPages ten = prices(new int[] {1, 1, 1, 1}, ALL_KEYS);
        dueAskings(ten, 1023, 3, 10, 4114);
        Bound.due("five would be due", ten.askings(0, 1023, 4, 0), Bound.NONE);
        dueAskings(ten, 15, 3, 10, 4114);
        Bound.due("four are due, three are there", ten.askings(0, 14, 3, 0), Bound.NONE);
        for (int role = 0; role < 4; role++) {
            int[] pairs = {2, 1, 4, 1, 8, 1, 16, 1, 32, 1};
            SignedPages x = prices(new int[] {1, 1, 1, 1}, pairs);
            dueAskings(x, 30, 0, 4, 1111);
            Bound.due("role " + role + " has nobody there", x.askings(0, 1023 & ~pairs[2 * role], 0, 0), Bound.NONE);
        }
    }

    private static void termsNoHarm() {
        Bound.of(Bound.TERMS, "and no set of c KEYS (or fewer) does HARM 0 at a MACHINE that asks R, H, T, L.");
        SignedPages own = prices(new int[] {1, 1, 1, 1}, 15, 1, 48, 1, 192, 1, 768, 1, 1, 1);
        dueAskings(own, 1023, 0, 4, 1111);
        dueAskings(own, 1023, 1, 5, 2111);
        dueAskings(own, 1023, 2, 6, 3111);
        dueAskings(own, 1023, 3, 8, 4112);
        SignedPages alike = prices(new int[] {1, 1, 1, 1}, 15, 1, 48, 1, 48, 1, 48, 1, 1, 1);
        dueAskings(alike, 1023, 1, 6, 2112);
        Bound.due("two keys make HOUR, TOGETHER and LIST, whatever is asked", alike.askings(0, 1023, 2, 0), Bound.NONE);
        SignedPages thieves = prices(new int[] {1, 1, 1, 1}, 15, 1, 3, 1, 3, 1, 7, 1, 1, 1);
        Bound.due("three keys of LIST are due, two are there", thieves.askings(0, 1019, 2, 0), Bound.NONE);
        dueAskings(thieves, 1023, 2, 8, 3113);
    }

    private static void termsCheapest() {
        Bound.of(Bound.TERMS, "The cheapest by prices of signatures of each; of alike ones the first by ROLES.");
        int[][] prices = {{1, 1, 1, 1}, {1, 0, 5, 99}, {1, 5, 0, 99}, {1, 99, 5, 0}, {0, 0, 0, 0}, {99, 99, 99, 99}, {0, 1, 1, 0}, {1, 2, 3, 2}};
        int[] due = {10, 108, 108, 108, 0, 990, 2, 17};
        int[] many = {4114, 4411, 4141, 4114, 4114, 4114, 4114, 4114};
        for (int i = 0; i < prices.length; i++) {
            dueAskings(prices(prices[i], ALL_KEYS), 1023, 3, due[i], many[i]);
        }
        SignedPages noLists = prices(new int[] {1, 2, 2, 1}, 15, 1, 15, 1, 15, 1, 1, 1, 1, 1);
        dueAskings(noLists, 1023, 3, 4 + 2 + 8 + 1, 4141);
    }

    private static void termsFractions() {
        Bound.of(Bound.TERMS, "Fractions are told by upper() and lower(), in lowest terms, the lower number above 0 (0 by 1).");
        SignedPages x = thief("L", Bound.ONE_EACH);
        int[] sizes = {0, 1, 2, 5, 9, 10};
        long[] uppers = {0, 1, 1, 1, 9, 1};
        long[] lowers = {1, 10, 5, 2, 10, 1};
        for (int i = 0; i < sizes.length; i++) {
            x.share(0, 0, 0, sizes[i]);
            Bound.due("upper of " + sizes[i], x.upper(), uppers[i]);
            Bound.due("lower of " + sizes[i], x.lower(), lowers[i]);
        }
        SignedPages y = thief("L", ALL_KEYS);
        y.share(0, 0, 0, 5);
        Bound.due("none of 252", y.upper(), 0);
        Bound.due("by 1", y.lower(), 1);
    }

    private static void harm() {
        Bound.of(33, "Whether a HARM (0 .. 3) is done by a set of KEYS, by a ROOT, a TEXT: 1, 0.");
        SignedPages x = thief("HLod", Bound.ONE_EACH);
        int[][] due = {{0, 0, 1}, {0, 0, 1}, {0, 0, 1}, {0, 1, 1}};
        int[] sets = {0, 2, 1023};
        long before = x.digest();
        for (int which = 0; which <= 3; which++) {
            for (int i = 0; i < sets.length; i++) {
                Bound.due("harm " + which + " by " + sets[i], x.harm(which, 0, 0, sets[i]), due[which][i]);
            }
        }
        Bound.due("nothing is changed", x.digest(), before);
        Check.text(x, 3, "L");
        Bound.due("another text", x.harm(0, 0, 3, 8), 1);
        int other = Check.root(x, 1, 1, 0, 1, 1, 1, 1, 1, 1, 512, 1, 1, 1);
        Bound.due("another ROOT", x.harm(0, other, 3, 8), 0);
        Bound.due("another ROOT by its key", x.harm(0, other, 3, 512), 1);
    }

    private static void harmBad() {
        Bound.of(33, "BAD");
        SignedPages x = thief("L", Bound.ONE_EACH);
        for (int which : Bound.outside(0, 3)) {
            Bound.refused(x, "harm " + which, Bound.BAD, () -> x.harm(which, 0, 0, 0));
        }
        for (int p : new int[] {-1, 1, Bound.NONE, Bound.MIN, Bound.MAX}) {
            Bound.refused(x, "page " + p, Bound.BAD, () -> x.harm(0, p, 0, 0));
        }
        for (int t : Bound.outside(0, 3)) {
            Bound.refused(x, "text " + t, Bound.BAD, () -> x.harm(0, 0, t, 0));
        }
        for (int keys : Bound.outside(0, 1023)) {
            Bound.refused(x, "keys " + keys, Bound.BAD, () -> x.harm(0, 0, 0, keys));
        }
        SignedPages y = thief("", Bound.ONE_EACH);
        Bound.refused(y, "harm ahead of STATE", Bound.BAD, () -> y.harm(4, 0, 0, 0));
        Bound.refused(y, "keys ahead of STATE", Bound.BAD, () -> y.harm(0, 0, 0, 1024));
        Bound.refused(y, "page ahead of STATE", Bound.BAD, () -> y.harm(0, 1, 0, 0));
        Bound.refused(y, "keys ahead of NOTHING", Bound.BAD, () -> y.harm(0, 0, 1, 1024));
        Bound.refused(y, "page ahead of NOTHING", Bound.BAD, () -> y.harm(0, 1, 1, 0));
    }

    private static void harmNothing() {
        Bound.of(33, "NOTHING");
        SignedPages x = thief("L", Bound.ONE_EACH);
        int note = x.note(1, 1);
        Bound.found(x, "no text", Bound.NOTHING, () -> x.harm(0, 0, 1, 0));
        Bound.found(x, "ahead of UNLIKE", Bound.NOTHING, () -> x.harm(0, note, 3, 0));
    }

    private static void harmUnlike() {
        Bound.of(33, "UNLIKE");
        SignedPages x = Bound.world();
        int note = x.note(1, 1);
        Check.text(x, 0, "L");
        x.text(1, 0);
        for (int p : new int[] {note, Bound.LIST, Bound.LENT, Bound.TOGETHER, Bound.HOUR}) {
            Bound.found(x, "page " + p, Bound.UNLIKE, () -> x.harm(0, p, 0, 0));
            Bound.found(x, "page " + p + ", ahead of STATE", Bound.UNLIKE, () -> x.harm(0, p, 1, 0));
        }
    }

    private static void harmState() {
        Bound.of(33, "STATE: a FAULT. (STATE last.)");
        for (String letters : new String[] {"", " ", "LL", "o", "Loo", "L o"}) {
            SignedPages x = thief(letters, Bound.ONE_EACH);
            Bound.refused(x, "'" + letters + "'", Bound.STATE, () -> x.harm(0, 0, 0, 0));
            Bound.refused(x, "'" + letters + "', any harm, all keys", Bound.STATE, () -> x.harm(3, 0, 0, 1023));
        }
    }

    private static void least() {
        Bound.of(34, "How many sets of KEYS (of 1024) do a HARM; LEAST by asked() (NONE).");
        String[] texts = {"R", "L", "L", "HTLod"};
        int[][] roots = {ALL_KEYS, Bound.ONE_EACH, ALL_KEYS, {1023, 9, 1023, 9, 1023, 9, 1023, 9, 1023, 9}};
        int[] sets = {1024, 512, 1, 11};
        int[] leasts = {0, 8, 1023, 511};
        for (int i = 0; i < texts.length; i++) {
            SignedPages x = thief(texts[i], roots[i]);
            x.told(0, 1);
            Bound.due("how many by '" + texts[i] + "'", x.least(0, 0, 0), sets[i]);
            Bound.due("the least by '" + texts[i] + "'", x.asked(), leasts[i]);
        }
        allKeysDoEveryHarm();
    }

    /** So the NONE of LEAST never comes: all ten keys together make every ROLE, and with it HARM 0. */
    private static void allKeysDoEveryHarm() {
        for (String letters : new String[] {"RHTLNodw", "HTLNod", "L", "N", "HLod"}) {
            SignedPages x = thief(letters, ALL_KEYS);
            for (int which = 0; which <= 3; which++) {
                Bound.due("all keys do harm " + which + " of " + letters, x.harm(which, 0, 0, 1023), 1);
                Bound.due("harm " + which + " of " + letters + " is done", x.least(which, 0, 0) >= 1 ? 1 : 0, 1);
                Bound.due("the least of it is a set", x.asked() >= 0 ? 1 : 0, 1);
            }
        }
    }

    private static void leastRefused() {
        Bound.of(34, "Refused as harm().");
        SignedPages x = thief("L", Bound.ONE_EACH);
        x.told(0, 1);
        for (int which : Bound.outside(0, 3)) {
            Bound.refused(x, "harm " + which, Bound.BAD, () -> x.least(which, 0, 0));
        }
        for (int p : new int[] {-1, 1, Bound.NONE, Bound.MIN, Bound.MAX}) {
            Bound.refused(x, "page " + p, Bound.BAD, () -> x.least(0, p, 0));
        }
        for (int t : Bound.outside(0, 3)) {
            Bound.refused(x, "text " + t, Bound.BAD, () -> x.least(0, 0, t));
        }
        SignedPages y = thief("L", Bound.ONE_EACH);
        int note = y.note(1, 1);
        y.text(1, 0);
        y.told(0, 1);
        Bound.refused(y, "harm ahead of STATE", Bound.BAD, () -> y.least(4, 0, 1));
        Bound.refused(y, "harm ahead of NOTHING", Bound.BAD, () -> y.least(4, 0, 2));
        Bound.found(y, "no text", Bound.NOTHING, () -> y.least(0, 0, 2));
        Bound.found(y, "no text, ahead of UNLIKE", Bound.NOTHING, () -> y.least(0, note, 2));
        Bound.found(y, "no ROOT", Bound.UNLIKE, () -> y.least(0, note, 0));
        Bound.found(y, "no ROOT, ahead of STATE", Bound.UNLIKE, () -> y.least(0, note, 1));
        Bound.refused(y, "a FAULT", Bound.STATE, () -> y.least(0, 0, 1));
    }

    private static void share() {
        Bound.of(35, "The share of sets of n KEYS (0 .. 10) that do a HARM, told by upper(), lower(): how many.");
        int[] withOneKey = {0, 1, 9, 36, 84, 126, 126, 84, 36, 9, 1};
        int[] ofAll = {1, 10, 45, 120, 210, 252, 210, 120, 45, 10, 1};
        SignedPages x = thief("L", Bound.ONE_EACH);
        SignedPages any = thief("R", Bound.ONE_EACH);
        SignedPages ten = thief("L", ALL_KEYS);
        for (int n = 0; n <= 10; n++) {
            Bound.due("one key among " + n, x.share(0, 0, 0, n), withOneKey[n]);
            Bound.due("its fraction", x.upper() * ofAll[n], x.lower() * withOneKey[n]);
            Bound.due("no key among " + n, any.share(0, 0, 0, n), ofAll[n]);
            Bound.due("upper", any.upper(), 1);
            Bound.due("lower", any.lower(), 1);
            Bound.due("ten keys among " + n, ten.share(0, 0, 0, n), n == 10 ? 1 : 0);
            Bound.due("upper", ten.upper(), n == 10 ? 1 : 0);
            Bound.due("lower", ten.lower(), 1);
        }
    }

    private static void shareRefused() {
        Bound.of(35, "Refused as harm().");
        SignedPages x = thief("L", Bound.ONE_EACH);
        x.share(0, 0, 0, 2);
        for (int which : Bound.outside(0, 3)) {
            Bound.refused(x, "harm " + which, Bound.BAD, () -> x.share(which, 0, 0, 5));
        }
        for (int p : new int[] {-1, 1, Bound.NONE, Bound.MIN, Bound.MAX}) {
            Bound.refused(x, "page " + p, Bound.BAD, () -> x.share(0, p, 0, 5));
        }
        for (int t : Bound.outside(0, 3)) {
            Bound.refused(x, "text " + t, Bound.BAD, () -> x.share(0, 0, t, 5));
        }
        for (int n : Bound.outside(0, 10)) {
            Bound.refused(x, "sets of " + n, Bound.BAD, () -> x.share(0, 0, 0, n));
        }
        SignedPages y = thief("L", Bound.ONE_EACH);
        int note = y.note(1, 1);
        y.share(0, 0, 0, 2);
        y.text(1, 0);
        Bound.refused(y, "n ahead of STATE", Bound.BAD, () -> y.share(0, 0, 1, 11));
        Bound.refused(y, "n ahead of NOTHING", Bound.BAD, () -> y.share(0, 0, 2, -1));
        Bound.found(y, "no text", Bound.NOTHING, () -> y.share(0, 0, 2, 5));
        Bound.found(y, "no text, ahead of UNLIKE", Bound.NOTHING, () -> y.share(0, note, 2, 5));
        Bound.found(y, "no ROOT", Bound.UNLIKE, () -> y.share(0, note, 0, 5));
        Bound.found(y, "no ROOT, ahead of STATE", Bound.UNLIKE, () -> y.share(0, note, 1, 5));
        Bound.refused(y, "a FAULT", Bound.STATE, () -> y.share(0, 0, 1, 5));
    }

    private static void askings() {
        Bound.of(36, "ASKINGS by KEYS of a ROOT, KEYS that are there (bits), c (0 .. 4), a ROW of four prices (0 .. 99): "
            + "the price; how MANY of ROOT as thousands, and so on, by asked().");
        dueAskings(prices(new int[] {0, 0, 0, 0}, ALL_KEYS), 1, 0, 0, 1111);
        dueAskings(prices(new int[] {99, 99, 99, 99}, Bound.KEY_0), 1, 0, 396, 1111);
        dueAskings(prices(new int[] {1, 10, 5, 20}, 15, 1, 48, 1, 192, 1, 768, 1, 1, 1), 1023, 3, 44, 4121);
        dueAskings(prices(new int[] {7, 0, 0, 0}, ALL_KEYS), 1023, 3, 28, 4114);
        dueAskings(prices(new int[] {0, 7, 0, 0}, ALL_KEYS), 1023, 3, 7, 4114);
        dueAskings(prices(new int[] {0, 0, 7, 0}, ALL_KEYS), 1023, 3, 7, 4114);
        dueAskings(prices(new int[] {0, 0, 0, 7}, ALL_KEYS), 1023, 3, 7, 4141);
        SignedPages x = prices(new int[] {1, 1, 1, 1}, ALL_KEYS);
        long before = x.digest();
        x.askings(0, 1023, 3, 0);
        Bound.due("nothing is changed", x.digest(), before);
    }

    private static void askingsNone() {
        Bound.of(36, "NONE: none.");
        SignedPages x = prices(new int[] {0, 0, 0, 0}, ALL_KEYS);
        x.askings(0, 1023, 1, 0);
        Bound.due("nobody is there", x.askings(0, 0, 0, 0), Bound.NONE);
        Bound.due("as many stolen as there may be asked", x.askings(0, 1023, 4, 0), Bound.NONE);
        Bound.due("what was told stays", x.asked(), 2112);
        Bound.due("that is no FINDING", x.finding(), 0);
        SignedPages y = prices(new int[] {0, 0, 0, 0}, 15, 1, 48, 1, 48, 1, 48, 1, 1, 1);
        y.askings(0, 1023, 1, 0);
        Bound.due("two keys make the three other ROLES", y.askings(0, 1023, 2, 0), Bound.NONE);
        Bound.due("nobody is there for the three other ROLES", y.askings(0, 15, 0, 0), Bound.NONE);
        Bound.due("what was told stays, too", y.asked(), 2112);
    }

    private static void askingsBad() {
        Bound.of(36, "BAD");
        SignedPages x = prices(new int[] {1, 1, 1, 1}, ALL_KEYS);
        for (int p : new int[] {-1, 1, Bound.NONE, Bound.MIN, Bound.MAX}) {
            Bound.refused(x, "page " + p, Bound.BAD, () -> x.askings(p, 1023, 0, 0));
        }
        for (int there : Bound.outside(0, 1023)) {
            Bound.refused(x, "there " + there, Bound.BAD, () -> x.askings(0, there, 0, 0));
        }
        for (int c : Bound.outside(0, 4)) {
            Bound.refused(x, "c " + c, Bound.BAD, () -> x.askings(0, 1023, c, 0));
        }
        for (int r : Bound.outside(0, 5)) {
            Bound.refused(x, "row " + r, Bound.BAD, () -> x.askings(0, 1023, 0, r));
        }
        SignedPages y = prices(new int[] {1, 1, 1, 1}, ALL_KEYS);
        Bound.refused(y, "page ahead of NOTHING", Bound.BAD, () -> y.askings(1, 1023, 0, 1));
        Bound.refused(y, "there ahead of NOTHING", Bound.BAD, () -> y.askings(0, 1024, 0, 1));
        Bound.refused(y, "c ahead of NOTHING", Bound.BAD, () -> y.askings(0, 1023, 5, 1));
    }

    private static void askingsNothing() {
        Bound.of(36, "NOTHING");
        SignedPages x = prices(new int[] {1, 1, 1, 1}, ALL_KEYS);
        int note = x.note(1, 1);
        Bound.found(x, "no prices", Bound.NOTHING, () -> x.askings(0, 1023, 0, 1));
        Bound.found(x, "ahead of UNLIKE", Bound.NOTHING, () -> x.askings(note, 1023, 0, 1));
        x.tear(0);
        Bound.found(x, "torn", Bound.NOTHING, () -> x.askings(0, 1023, 0, 0));
    }

    private static void askingsSize() {
        Bound.of(36, "SIZE");
        SignedPages x = prices(new int[] {1, 1, 1, 1}, ALL_KEYS);
        int note = x.note(1, 1);
        for (int n : new int[] {0, 3, 5, 40}) {
            x.row(0, n);
            Bound.found(x, "prices by a row of " + n, Bound.SIZE, () -> x.askings(0, 1023, 0, 0));
        }
        Check.row(x, 0, 100, 100, 100);
        Bound.found(x, "prices, ahead of UNLIKE", Bound.SIZE, () -> x.askings(0, 1023, 0, 0));
        Bound.found(x, "no ROOT, ahead of UNLIKE", Bound.SIZE, () -> x.askings(note, 1023, 0, 0));
    }

    private static void askingsUnlike() {
        Bound.of(36, "UNLIKE.");
        for (int place = 0; place < 4; place++) {
            SignedPages x = prices(new int[] {1, 1, 1, 1}, ALL_KEYS);
            for (int price : Bound.outside(0, 99)) {
                x.lay(0, place, price);
                Bound.found(x, "price " + price + " at place " + place, Bound.UNLIKE, () -> x.askings(0, 1023, 0, 0));
            }
            Bound.found(x, "ahead of NONE", Bound.UNLIKE, () -> x.askings(0, 0, 0, 0));
        }
        SignedPages longer = prices(new int[] {1, 1, 1, 1, 100}, ALL_KEYS);
        Check.row(longer, 0, 1, 1, 1, 1);
        Bound.due("what a longer row had behind is not looked at", longer.askings(0, 1023, 0, 0), 4);
        SignedPages y = Bound.world();
        int note = y.note(1, 1);
        y.row(0, 4);
        for (int p : new int[] {note, Bound.LIST, Bound.LENT, Bound.TOGETHER, Bound.HOUR}) {
            Bound.found(y, "page " + p, Bound.UNLIKE, () -> y.askings(p, 1023, 0, 0));
        }
        y.lay(0, 0, 100);
        Bound.found(y, "neither: counted once", Bound.UNLIKE, () -> y.askings(note, 1023, 0, 0));
    }
}
