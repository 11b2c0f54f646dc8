import java.util.ArrayList;
import java.util.Arrays;
import java.util.HashMap;
import java.util.List;
import java.util.Map;

/**
 * The document once more, as plain as it can be said with the whole Java library and with exceptions for refusals,
 * so that ModelTest can look whether two readings of it answer alike.
 */
final class Model {
    private static final int NONE = -9;
    private static final String STEPS = "RHTLN";

    private static final class No extends RuntimeException {
        private static final long serialVersionUID = 1L;
        final int code;
        final int finding;

        No(int code, int finding) {
            super(null, null, false, false);
            this.code = code;
            this.finding = finding;
        }
    }

    private static final class Sheet {
        int kind, number, till, signed, has;
        int[] data;
        int lends;
        final Map<Integer, Integer> sums = new HashMap<>();
    }

    private static final class Box {
        String text;
        int[] took;
        final Map<Integer, Integer> runs = new HashMap<>();
    }

    private final int[][] rows = new int[6][];
    private final byte[][] texts = new byte[4][];
    private final List<Sheet> sheets = new ArrayList<>();
    private final Box[] boxes = new Box[4];
    private final int[][] refusals = new int[5][7];
    private final int[] found = new int[6];
    private int today, asked, finding;
    private long upper, lower = 1;

    long call(String name, int[] a) {
        try {
            return answer(name, a);
        } catch (No no) {
            if (no.finding > 0) {
                finding = no.finding;
                found[finding]++;
            }
            return no.code;
        }
    }

    private static void bad(boolean is) {
        if (is) {
            throw new No(-1, 0);
        }
    }

    private static void bad(int v, int least, int most) {
        bad(v < least || v > most);
    }

    private void full() {
        if (sheets.size() == 40) {
            throw new No(-2, 0);
        }
    }

    private static void find(int finding, boolean is) {
        if (is) {
            throw new No(-3, finding);
        }
    }

    private void page(int p) {
        bad(p, 0, sheets.size() - 1);
    }

    private long answer(String name, int[] a) {
        switch (name) {
            case "row": return row(a[0], a[1]);
            case "lay": return lay(a[0], a[1], a[2]);
            case "at": return at(a[0], a[1]);
            case "tear": return tear(a[0]);
            case "copy": return copy(a[0], a[1], a[2], a[3], a[4]);
            case "mean": return mean(a[0]);
            case "text": return text(a[0], a[1]);
            case "put": return put(a[0], a[1], a[2]);
            case "later": bad(a[0] < 0 || (long) today + a[0] > 999); return today += a[0];
            case "note": head(a[0], a[1]); full(); return keep(0, a[0], a[1]);
            case "root": return root(a[0], a[1], a[2]);
            case "list": return list(a[0], a[1], a[2], a[3], a[4] != 0);
            case "together": return together(a[0], a[1], a[2], a[3]);
            case "hour": return hour(a[0], a[1], a[2]);
            case "sign": page(a[0]); bad(a[1], 0, 1023); return Integer.bitCount(sheets.get(a[0]).signed |= a[1]);
            case "told": page(a[0]); bad(a[1], 0, 3); asked = fact(sheets.get(a[0]), a[1]); return 1;
            case "mark": page(a[0]); bad(a[1], 1, 5); return mark(sheets.get(a[0]), a[1]);
            case "good": page(a[0]); page(a[1]); find(3, sheets.get(a[1]).kind != 1); return good(a[0], a[1]) ? 1 : 0;
            case "sumOf": return sumOf(a[0], a[1]);
            case "chain": return chain(a[0]);
            case "fault": bad(a[0], 0, 3); find(1, texts[a[0]] == null); return fault(texts[a[0]]);
            case "machine": return machine(a[0], a[1], a[2]);
            case "ask": return ask(a[0], a[1]);
            case "offer": return offer(a[0], a[1], a[2]);
            case "runs": box(a[0]); bad(a[1], 0, 9); return there(a[0]).runs.getOrDefault(a[1], NONE);
            case "took": box(a[0]); bad(a[1], 0, 4); return there(a[0]).took[a[1]];
            case "walk": return walk(a[0]);
            case "whoHas": page(a[0]); return sheets.get(a[0]).has;
            case "reached": return reached(a[0]);
            case "refused": bad(a[0], 0, 4); bad(a[1], 1, 6); return refusals[a[0]][a[1]];
            case "noisy": return noisy(a[0], a[1], a[2]);
            case "harm": bad(a[3], 0, 1023); return harms(a[0], a[1], a[2], 0)[a[3]] ? 1 : 0;
            case "least": return least(harms(a[0], a[1], a[2], 0));
            case "share": return share(harms(a[0], a[1], a[2], a[3]), a[3]);
            case "askings": return askings(a[0], a[1], a[2], a[3]);
            case "writes": return writes(a[0], a[1], a[2]);
            case "neither": return neither(a[0], a[1]);
            case "asked": return asked;
            case "upper": return upper;
            case "lower": return lower;
            case "count": bad(a[0], 0, 7); return count(a[0]);
            case "finding": return finding;
            case "findings": bad(a[0], 1, 5); return found[a[0]];
            case "digest": return digest();
            default: throw new IllegalStateException(name);
        }
    }

    private long row(int r, int n) {
        bad(r, 0, 5);
        bad(n > 40);
        find(5, n < 0);
        rows[r] = new int[n];
        return n;
    }

    private int[] places(int r) {
        find(1, rows[r] == null);
        return rows[r];
    }

    private long lay(int r, int i, int v) {
        long one = at(r, i);
        rows[r][i] = v;
        return one;
    }

    private long at(int r, int i) {
        bad(r, 0, 5);
        find(2, i < 0 & places(r) != null || i >= places(r).length);
        asked = rows[r][i];
        return 1;
    }

    private long tear(int r) {
        bad(r, 0, 5);
        places(r);
        rows[r] = null;
        return 1;
    }

    private long copy(int r, int i, int to, int j, int n) {
        bad(r, 0, 5);
        bad(to, 0, 5);
        find(5, n < 0);
        int[] from = places(r).clone();
        int[] into = places(to);
        find(2, i < 0 || j < 0 || (long) i + n > from.length || (long) j + n > into.length);
        for (int k = 0; k < n; k++) {
            into[j + k] = from[i + k];
        }
        return 1;
    }

    private long mean(int r) {
        bad(r, 0, 5);
        find(4, places(r).length == 0);
        asked = java.math.BigInteger.valueOf(Arrays.stream(rows[r]).asLongStream().sum())
            .divide(java.math.BigInteger.valueOf(rows[r].length)).intValueExact();
        return 1;
    }

    private long text(int t, int n) {
        bad(t, 0, 3);
        bad(n > 40);
        find(5, n < 0);
        texts[t] = new byte[n];
        Arrays.fill(texts[t], (byte) 32);
        return n;
    }

    private long put(int t, int i, int v) {
        bad(t, 0, 3);
        find(1, texts[t] == null);
        find(2, i < 0 || i >= texts[t].length);
        int was = texts[t][i];
        texts[t][i] = (byte) v;
        return 1000 + was;
    }

    private static void head(int number, int till) {
        bad(number, 1, 99);
        bad(till, 0, 999);
    }

    private int keep(int kind, int number, int till, int... data) {
        Sheet sheet = new Sheet();
        sheet.kind = kind;
        sheet.number = number;
        sheet.till = till;
        sheet.data = data;
        sheets.add(sheet);
        return sheets.size() - 1;
    }

    private long root(int number, int till, int r) {
        head(number, till);
        bad(r, 0, 5);
        full();
        int[] row = places(r);
        find(5, row.length != 10);
        for (int i = 0; i < 10; i += 2) {
            find(3, row[i] < 1 || row[i] > 1023);
            find(3, row[i + 1] < 1 || row[i + 1] > Integer.bitCount(row[i]));
        }
        return keep(1, number, till, row.clone());
    }

    private long list(int number, int till, int r, int lends, boolean lent) {
        head(number, till);
        bad(r, 0, 5);
        bad(lends, 0, lent ? 0 : 1023);
        full();
        int[] row = places(r);
        find(5, row.length % 2 == 1);
        Map<Integer, Integer> sums = new HashMap<>();
        for (int i = 0; i < row.length; i += 2) {
            find(3, row[i] < 0 || row[i] > 9 || row[i + 1] < 0 || row[i + 1] > 999);
            find(3, sums.put(row[i], row[i + 1]) != null);
        }
        int page = keep(lent ? 3 : 2, number, till);
        sheets.get(page).lends = lends;
        sheets.get(page).sums.putAll(sums);
        return page;
    }

    private long together(int number, int till, int list, int lent) {
        head(number, till);
        page(list);
        if (lent != NONE) {
            page(lent);
        }
        full();
        find(3, sheets.get(list).kind != 2);
        find(3, lent != NONE && sheets.get(lent).kind != 3);
        return keep(4, number, till, list, lent);
    }

    private long hour(int number, int till, int together) {
        head(number, till);
        page(together);
        full();
        find(3, sheets.get(together).kind != 4);
        return keep(5, number, till, together);
    }

    private static int fact(Sheet sheet, int what) {
        return new int[] {sheet.kind, sheet.number, sheet.till, sheet.signed}[what];
    }

    private static long mark(Sheet sheet, int kind) {
        find(3, sheet.kind != kind && !(sheet.kind == 3 && kind == 2));
        if (kind == 1) {
            return sheet.data[1] + sheet.data[3] + sheet.data[5] + sheet.data[7] + sheet.data[9];
        }
        if (kind == 2) {
            return sheet.sums.size();
        }
        return kind == 3 ? sheet.sums.values().stream().mapToInt(v -> v).max().orElse(0) : sheet.data[0];
    }

    private boolean good(int p, int root) {
        int role = List.of(1, 5, 4, 2, 3).indexOf(sheets.get(p).kind);
        int[] data = sheets.get(root).data;
        return role >= 0 && Integer.bitCount(data[2 * role] & sheets.get(p).signed) >= data[2 * role + 1];
    }

    private long sumOf(int p, int file) {
        page(p);
        bad(file, 0, 9);
        find(3, sheets.get(p).kind != 2 && sheets.get(p).kind != 3);
        return sheets.get(p).sums.getOrDefault(file, NONE);
    }

    /** The CHAIN from a ROOT, itself first. */
    private List<Integer> chainFrom(int p) {
        List<Integer> chain = new ArrayList<>(List.of(p));
        for (int q = 0; q < sheets.size(); q++) {
            int last = chain.get(chain.size() - 1);
            Sheet next = sheets.get(q);
            if (next.kind == 1 && next.number == sheets.get(last).number + 1 && good(q, last) && good(q, q)) {
                chain.add(q);
                q = -1;
            }
        }
        return chain;
    }

    private long chain(int p) {
        page(p);
        find(3, sheets.get(p).kind != 1);
        List<Integer> chain = chainFrom(p);
        asked = chain.get(chain.size() - 1);
        return chain.size();
    }

    private static long fault(byte[] bytes) {
        String text = new String(bytes, java.nio.charset.StandardCharsets.ISO_8859_1);
        for (int size = 0; size <= bytes.length; size++) {
            if (!canGoOn(text.substring(0, size))) {
                return size - 1;
            }
        }
        return text.isBlank() || text.trim().isEmpty() ? bytes.length : NONE;
    }

    private static boolean canGoOn(String start) {
        return start.matches(" *") || start.matches(" *[RHTLN]+[odw]* *") && !start.matches(".*([^ ]).*\\1.*");
    }

    private static void box(int m) {
        bad(m, 0, 3);
    }

    private Box there(int m) {
        find(1, boxes[m] == null);
        return boxes[m];
    }

    private String plan(int root, int t) {
        page(root);
        bad(t, 0, 3);
        find(1, texts[t] == null);
        find(3, sheets.get(root).kind != 1);
        if (fault(texts[t]) != NONE) {
            throw new No(-4, 0);
        }
        return new String(texts[t], java.nio.charset.StandardCharsets.ISO_8859_1).trim();
    }

    private static String steps(String plan) {
        return plan.replaceAll("[^RHTLN]", "");
    }

    private long machine(int m, int t, int root) {
        box(m);
        String plan = plan(root, t);
        boxes[m] = new Box();
        boxes[m].text = plan;
        boxes[m].took = new int[] {root, NONE, NONE, NONE, NONE};
        sheets.get(root).has |= 1 << m;
        return steps(plan).length();
    }

    private int[] copies(int r) {
        int[] row = places(r);
        find(5, row.length != 5);
        for (int p : row) {
            find(3, p != NONE && (p < 0 || p >= sheets.size()));
        }
        return row;
    }

    private long ask(int m, int r) {
        box(m);
        bad(r, 0, 5);
        Box box = there(m);
        int[] copies = copies(r);
        String steps = steps(box.text);
        for (int step = 0; step < steps.length(); step++) {
            int which = STEPS.indexOf(steps.charAt(step));
            int why = why(box.text, box.took, which, copies[which]);
            if (why > 0) {
                refusals[step][why]++;
                return 10 * step + why;
            }
            if (copies[which] != NONE) {
                box.took[which] = copies[which];
                sheets.get(copies[which]).has |= 1 << m;
            }
        }
        return NONE;
    }

    private int why(String plan, int[] took, int which, int copy) {
        Sheet own = sheets.get(took[0]);
        if (which == 0 && (copy == NONE || copy == took[0])) {
            return plan.contains("d") && own.till < today ? 4 : 0;
        }
        if (copy == NONE) {
            return 1;
        }
        Sheet sheet = sheets.get(copy);
        if (sheet.kind != new int[] {1, 5, 4, 2, 3}[which]) {
            return 2;
        }
        if (!good(copy, took[0]) || which == 0 && !good(copy, copy)) {
            return 3;
        }
        if (plan.contains("d") && today > sheet.till) {
            return 4;
        }
        if (which == 0) {
            return sheet.number == own.number + 1 ? 0 : 5;
        }
        if (plan.contains("o") && took[which] != NONE && sheet.number < sheets.get(took[which]).number) {
            return 5;
        }
        if (which == 2 && plan.contains("H")) {
            return took[1] != NONE && sheets.get(took[1]).data[0] == copy ? 0 : 6;
        }
        if (which > 2 && plan.contains("T")) {
            return took[2] != NONE && sheets.get(took[2]).data[which - 3] == copy ? 0 : 6;
        }
        return 0;
    }

    private long offer(int m, int file, int sum) {
        box(m);
        bad(file, 0, 9);
        bad(sum, 0, 999);
        Box box = there(m);
        if (box.text.contains("L")) {
            if (box.took[3] == NONE) {
                return 7;
            }
            Sheet teller = sheets.get(box.took[3]);
            if ((teller.lends & 1 << file) != 0 && box.text.contains("N")) {
                if (box.took[4] == NONE) {
                    return 7;
                }
                teller = sheets.get(box.took[4]);
            }
            if (!teller.sums.containsKey(file)) {
                return 7;
            }
            if (teller.sums.get(file) != sum) {
                return 8;
            }
        }
        box.runs.put(file, sum);
        return NONE;
    }

    private long walk(int m) {
        box(m);
        List<Integer> chain = chainFrom(there(m).took[0]);
        for (int p : chain) {
            sheets.get(p).has |= 1 << m;
            boxes[m].took[0] = p;
        }
        return chain.size() - 1;
    }

    private long reached(int r) {
        bad(r, 0, 5);
        int[] copies = copies(r);
        int bits = 0;
        for (int m = 0; m < 4; m++) {
            if (boxes[m] == null) {
                continue;
            }
            int[] took = boxes[m].took.clone();
            boolean all = true;
            for (char step : steps(boxes[m].text).toCharArray()) {
                int which = STEPS.indexOf(step);
                all = all && why(boxes[m].text, took, which, copies[which]) == 0;
                took[which] = all && copies[which] != NONE ? copies[which] : took[which];
            }
            bits += all ? 1 << m : 0;
        }
        return bits;
    }

    private long noisy(int why, int noise, int r) {
        bad(why, 1, 6);
        bad(noise, 0, 5);
        bad(r, 0, 5);
        int[] added = places(noise);
        find(5, added.length != 5);
        for (int v : added) {
            find(3, v < -99 || v > 99);
        }
        int[] told = new int[5];
        for (int step = 0; step < 5; step++) {
            told[step] = Math.max(0, refusals[step][why] + added[step]);
        }
        rows[r] = told;
        return Arrays.stream(told).sum();
    }

    private boolean[] harms(int which, int root, int t, int n) {
        bad(which, 0, 3);
        bad(n, 0, 10);
        String plan = plan(root, t);
        boolean[] does = new boolean[1024];
        for (int set = 0; set < 1024; set++) {
            does[set] = harm(which, sheets.get(root).data, plan, set);
        }
        return does;
    }

    private static boolean made(int[] data, int role, int set) {
        return Integer.bitCount(data[2 * role] & set) >= data[2 * role + 1];
    }

    private static boolean harm(int which, int[] data, String plan, int set) {
        boolean through = true;
        if (plan.contains("T")) {
            through = made(data, 2, set) && (made(data, 1, set) || !plan.contains("H"));
        }
        boolean still = !plan.contains("d") || !plan.contains("H") || made(data, 1, set);
        switch (which) {
            case 0:
                return !plan.contains("L") || plan.contains("R") && made(data, 0, set)
                    || made(data, 3, set) && through;
            case 1:
                return harm(0, data, plan, set) || !plan.contains("o") && still;
            case 2:
                return harm(0, data, plan, set) || plan.contains("N") && made(data, 4, set) && through;
            default:
                return harm(0, data, plan, set) || still;
        }
    }

    private long least(boolean[] does) {
        int sets = 0;
        int best = NONE;
        for (int n = 10; n >= 0; n--) {
            for (int set = 1023; set >= 0; set--) {
                if (does[set] && Integer.bitCount(set) == n) {
                    sets++;
                    best = set;
                }
            }
        }
        asked = best;
        return sets;
    }

    private long share(boolean[] does, int n) {
        long all = 0;
        long harmful = 0;
        for (int set = 0; set < 1024; set++) {
            if (Integer.bitCount(set) == n) {
                all++;
                harmful += does[set] ? 1 : 0;
            }
        }
        long g = java.math.BigInteger.valueOf(all).gcd(java.math.BigInteger.valueOf(harmful)).longValueExact();
        upper = harmful / g;
        lower = all / g;
        return harmful;
    }

    private long askings(int root, int there, int c, int r) {
        page(root);
        bad(there, 0, 1023);
        bad(c, 0, 4);
        bad(r, 0, 5);
        int[] prices = places(r);
        find(5, prices.length != 4);
        find(3, sheets.get(root).kind != 1);
        for (int v : prices) {
            find(3, v < 0 || v > 99);
        }
        int[] data = sheets.get(root).data.clone();
        long best = Long.MAX_VALUE;
        int bestMany = 0;
        for (int many = 1111; many <= 4444; many++) {
            int[] each = {many / 1000, many / 100 % 10, many / 10 % 10, many % 10};
            long price = 0;
            boolean fits = true;
            for (int role = 0; role < 4; role++) {
                fits &= each[role] >= 1 && each[role] <= 4 && Integer.bitCount(data[2 * role] & there) >= each[role];
                price += each[role] * prices[role];
                data[2 * role + 1] = each[role];
            }
            for (int set = 0; fits && price < best && set < 1024; set++) {
                fits = Integer.bitCount(set) > c || !harm(0, data, "RHTL", set);
            }
            if (fits && price < best) {
                best = price;
                bestMany = many;
            }
        }
        if (bestMany == 0) {
            return NONE;
        }
        asked = bestMany;
        return best;
    }

    private long writes(int m, int n, int k) {
        box(m);
        bad(n, 1, 40);
        bad(k, 0, n);
        boolean two = there(m).text.contains("w");
        if (two) {
            return k < n ? 0 : 1;
        }
        return k == 0 ? 0 : k == n ? 1 : 2;
    }

    private long neither(int m, int n) {
        box(m);
        bad(n, 1, 40);
        there(m);
        return boxes[m].text.contains("w") ? 0 : n - 1;
    }

    private long count(int what) {
        switch (what) {
            case 0: return today;
            case 1: return sheets.size();
            case 2: return sheets.stream().filter(s -> s.kind == 1).count();
            case 3: return sheets.stream().filter(s -> s.kind == 2 || s.kind == 3).count();
            case 4: return Arrays.stream(boxes).filter(b -> b != null).count();
            case 5: return Arrays.stream(refusals).flatMapToInt(Arrays::stream).sum();
            case 6: return Arrays.stream(rows).filter(r -> r != null).count();
            default: return Arrays.stream(texts).filter(t -> t != null).count();
        }
    }

    private long digest() {
        List<Long> values = new ArrayList<>();
        for (int what = 0; what < 8; what++) {
            values.add(count(what));
        }
        for (Sheet sheet : sheets) {
            for (int what = 0; what < 4; what++) {
                values.add((long) fact(sheet, what));
            }
            values.add((long) sheet.has);
            values.add(sheet.kind == 0 ? 0 : mark(sheet, sheet.kind));
        }
        for (Box box : boxes) {
            values.add(box == null ? -1L : steps(box.text).length());
            for (int i = 0; box != null && i < 15; i++) {
                values.add((long) (i < 5 ? box.took[i] : box.runs.getOrDefault(i - 5, NONE)));
            }
        }
        for (int step = 0; step < 5; step++) {
            for (int why = 1; why < 7; why++) {
                values.add((long) refusals[step][why]);
            }
        }
        for (int[] row : rows) {
            values.add(row == null ? -1L : row.length);
            for (int i = 0; row != null && i < row.length; i++) {
                values.add((long) row[i]);
            }
        }
        for (byte[] text : texts) {
            values.add(text == null ? -1L : text.length);
            for (int i = 0; text != null && i < text.length; i++) {
                values.add((long) text[i]);
            }
        }
        long h = 17;
        for (long v : values) {
            h = 31 * h + v;
        }
        return h;
    }
}
