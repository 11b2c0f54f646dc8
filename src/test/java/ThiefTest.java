import java.util.ArrayList;
import java.util.List;
import java.util.Random;

/**
 * Promise 33 beside 24 and 25: a thief signs pages with stolen KEYS and shows them, mixed with honest ones,
 * to a MACHINE; harm() has to say just what the MACHINE RUNS then. So HARMS 0 and 2 don't rest on how their
 * words are read alone.
 */
public final class ThiefTest {
    private static final int NONE = SignedPages.NONE;
    private static final int ALL = 1023, GOOD_SUM = 1, BAD_SUM = 666, OWN_FILE = 4, LENT_FILE = 5;
    /** The second round looks whether what was taken in the first opens more; both stay within 512 calls. */
    private static final int ROUNDS = 2;

    /** Each ROLE has one KEY of its own. */
    private static final int[] OWN_KEYS = {1, 1, 2, 1, 4, 1, 8, 1, 16, 1};
    private static final int WORKING_ORDERS = 111;

    private final SignedPages x = new SignedPages();
    private final int root;
    private final int[] honest;

    private ThiefTest(int[] pairs, String letters) {
        root = Check.root(x, 1, 999, ALL, pairs);
        int list = Check.list(x, 1, 999, ALL, 1 << LENT_FILE, false, OWN_FILE, GOOD_SUM, LENT_FILE, GOOD_SUM);
        int lent = Check.list(x, 1, 999, ALL, 0, true, LENT_FILE, GOOD_SUM);
        int together = Check.signed(x, x.together(1, 999, list, lent), ALL);
        int hour = Check.signed(x, x.hour(1, 999, together), ALL);
        honest = new int[] {NONE, hour, together, list, lent};
        Check.text(x, 0, letters);
    }

    public static void main(String[] args) {
        List<String> orders = new ArrayList<>();
        addOrders(orders, "");
        Check.due("orders of steps", orders.size(), 325);
        // One that asks L or N ahead of T, or T ahead of H, takes nothing ever: HARMS don't look at orders.
        orders.removeIf(order -> !new ThiefTest(OWN_KEYS, order).takesHonest());
        Check.due("orders that take honest copies", orders.size(), WORKING_ORDERS);
        for (String order : orders) {
            for (int set = 0; set < 32; set++) {
                look(OWN_KEYS, order, set);
            }
        }
        Random random = new Random(3);
        for (int run = 0; run < 6000; run++) {
            String letters = orders.get(random.nextInt(orders.size())) + (random.nextBoolean() ? "od" : "");
            look(randomPairs(random), letters, random.nextInt(1024));
        }
        Check.end();
    }

    private static void addOrders(List<String> orders, String begun) {
        if (!begun.isEmpty()) {
            orders.add(begun);
        }
        for (char letter : "RHTLN".toCharArray()) {
            if (begun.indexOf(letter) < 0) {
                addOrders(orders, begun + letter);
            }
        }
    }

    private static void look(int[] pairs, String letters, int set) {
        ThiefTest byList = new ThiefTest(pairs, letters);
        int reached = byList.steal(set, false);
        ThiefTest byLent = new ThiefTest(pairs, letters);
        int reachedByLent = byLent.steal(set, true);
        boolean own = (reached >> OWN_FILE & 1) != 0;
        boolean lent = ((reached | reachedByLent) >> LENT_FILE & 1) != 0;
        String what = " at " + letters + " by " + set + " of " + java.util.Arrays.toString(pairs);
        Check.due("HARM 0" + what, byList.x.harm(0, byList.root, 0, set), own ? 1 : 0);
        Check.due("HARM 2" + what, byList.x.harm(2, byList.root, 0, set), lent ? 1 : 0);
    }

    private boolean takesHonest() {
        x.machine(0, 0, root);
        Check.row(x, 0, honest);
        return x.ask(0, 0) == NONE;
    }

    /** The FILES (bits) of which the MACHINE ran what the thief wants, at any time. */
    private int steal(int set, boolean throughLent) {
        int[] stolen = stolenPages(set, throughLent);
        x.machine(0, 0, root);
        int ran = 0;
        for (int round = 0; round < ROUNDS; round++) {
            for (int mixed = 0; mixed < 16; mixed++) {
                Check.row(x, 0, mix(stolen, mixed, throughLent));
                x.ask(0, 0);
                for (int file = OWN_FILE; file <= LENT_FILE; file++) {
                    ran |= x.offer(0, file, BAD_SUM) == NONE ? 1 << file : 0;
                }
            }
        }
        return ran;
    }

    private int[] stolenPages(int set, boolean throughLent) {
        int own = set == 0 ? ALL : set;
        int newRoot = Check.root(x, 2, 999, set, own, 1, own, 1, own, 1, own, 1, own, 1);
        int list = Check.list(x, 1, 999, set, 0, false, OWN_FILE, BAD_SUM, LENT_FILE, BAD_SUM);
        int lent = Check.list(x, 1, 999, set, 0, true, LENT_FILE, BAD_SUM);
        int together = throughLent ? x.together(1, 999, honest[3], lent) : x.together(1, 999, list, honest[4]);
        x.sign(together, set);
        int hour = Check.signed(x, x.hour(1, 999, together), set);
        return new int[] {newRoot, hour, together, list, lent};
    }

    private int[] mix(int[] stolen, int mixed, boolean throughLent) {
        int[] copies = honest.clone();
        for (int i = 0; i < 4; i++) {
            int step = i == 3 && throughLent ? 4 : i;
            if ((mixed >> i & 1) != 0) {
                copies[step] = stolen[step];
            }
        }
        return copies;
    }

    private static int[] randomPairs(Random random) {
        int[] pairs = new int[10];
        for (int role = 0; role < 5; role++) {
            pairs[2 * role] = 1 + random.nextInt(ALL);
            pairs[2 * role + 1] = 1 + random.nextInt(Integer.bitCount(pairs[2 * role]));
        }
        return pairs;
    }
}
