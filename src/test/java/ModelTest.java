import java.lang.reflect.InvocationTargetException;
import java.lang.reflect.Method;
import java.lang.reflect.Modifier;
import java.util.ArrayList;
import java.util.Comparator;
import java.util.HashMap;
import java.util.List;
import java.util.Map;
import java.util.Random;

/**
 * All promises, beside the Model: long runs of calls by fixed random numbers, some fit for the state, some of any
 * numbers. Every answer has to be the Model's, no call may throw, and what is refused may change nothing that is told.
 */
public final class ModelTest {
    private static final int RUNS = 4500, CALLS = 512;
    /** A call, and at most four looks at what it changed. */
    private static final int CALLS_AT_ONCE = 5;
    private static final int[] KINDS = {1, 5, 4, 2, 3};
    private static final String[] WORLD_TEXTS = {"RHTLNodw", "RHTLod", "TLN", "HTLNd", "LNo", "L", "NLTHR", "HLow", "RTLN"};

    private final Map<String, Method> methods = new HashMap<>();
    private final List<String> names = new ArrayList<>();
    private final Map<String, Map<Long, Integer>> seen = new HashMap<>();
    private final Random random = new Random(20261118);
    private SignedPages real;
    private Model model;
    private final List<Integer> kinds = new ArrayList<>();
    private int pages;
    private int used;
    private boolean looking;
    private long latestDigest;
    private int latestAsked;

    private ModelTest() {
        List<Method> all = new ArrayList<>(List.of(SignedPages.class.getDeclaredMethods()));
        all.sort(Comparator.comparing(Method::getName));
        for (Method method : all) {
            if (Modifier.isPublic(method.getModifiers())) {
                methods.put(method.getName(), method);
                names.add(method.getName());
            }
        }
    }

    public static void main(String[] args) throws ReflectiveOperationException {
        ModelTest test = new ModelTest();
        for (int run = 0; run < RUNS; run++) {
            test.run(run);
        }
        test.dueSeen();
        Check.end();
    }

    private void run(int run) throws ReflectiveOperationException {
        real = new SignedPages();
        model = new Model();
        pages = 0;
        kinds.clear();
        used = 0;
        looking = false;
        if (run % 5 != 0) {
            world();
        }
        while (run % 7 == 0 && pages < 38) {
            call("note", 1 + below(5), day());
        }
        looking = true;
        latestDigest = real.digest();
        latestAsked = real.asked();
        used += 2;
        while (used + CALLS_AT_ONCE <= CALLS) {
            String name = names.get(random.nextInt(names.size()));
            if (random.nextInt(3) == 0) {
                name = random.nextBoolean() ? "ask" : new String[] {"offer", "sign", "lay", "lay", "reached"}[random.nextInt(5)];
            }
            call(name, random.nextInt(12) == 0 ? anyArgs(name) : fitArgs(name));
        }
    }

    /** Pages that fit together, so that machines can take them. */
    private void world() throws ReflectiveOperationException {
        int roots = 1 + random.nextInt(3);
        for (int i = 0; i < roots; i++) {
            lay(0, roleRow());
            call("root", i + 1, day(), 0);
            call("sign", pages - 1, 1023);
        }
        int firstList = pages;
        for (int i = 0; i < 2; i++) {
            lay(1, 3 + i, 10, 2, 20 + i, 1, 40);
            call("list", 1 + i, day(), 1, random.nextInt(8), 0);
            call("sign", pages - 1, signers());
            lay(1, 1, 11, 2, 22);
            call("list", 1 + i, day(), 1, 0, 1);
            call("sign", pages - 1, signers());
        }
        for (int i = 0; i < 2; i++) {
            call("together", 1 + i, day(), firstList + 2 * i, random.nextInt(4) == 0 ? -9 : firstList + 1 + 2 * i);
            call("sign", pages - 1, signers());
            call("hour", 1 + i, day(), pages - 1);
            call("sign", pages - 1, signers());
        }
        for (int m = 0; m < 4; m++) {
            String letters = WORLD_TEXTS[random.nextInt(WORLD_TEXTS.length)];
            call("text", m, letters.length());
            for (int i = 0; i < letters.length(); i++) {
                call("put", m, i, letters.charAt(i));
            }
            call("machine", m, m, 0);
        }
        int h = pages - 1;
        lay(2, 0, h, h - 1, firstList + 2, firstList + 3);
        lay(3, -9, h - 2, h - 3, firstList, firstList + 1);
        lay(4, roots - 1, h, h - 1, firstList, firstList + 3);
    }

    private void lay(int r, int... values) throws ReflectiveOperationException {
        call("row", r, values.length);
        for (int i = 0; i < values.length; i++) {
            call("lay", r, i, values[i]);
        }
    }

    private int[] roleRow() {
        int[] row = new int[10];
        for (int role = 0; role < 5; role++) {
            row[2 * role] = 1 + random.nextInt(1023);
            row[2 * role + 1] = 1 + random.nextInt(Math.min(3, Integer.bitCount(row[2 * role])));
        }
        return row;
    }

    private int signers() {
        return random.nextInt(5) == 0 ? random.nextInt(1024) : 1023;
    }

    private int day() {
        return random.nextInt(3) == 0 ? random.nextInt(1000) : 900 + random.nextInt(100);
    }

    private int[] anyArgs(String name) {
        int[] args = new int[methods.get(name).getParameterCount()];
        for (int i = 0; i < args.length; i++) {
            int[] edges = {-9, -1, 0, 1, 40, 41, 99, 100, 999, 1000, 1023, 1024, Integer.MAX_VALUE, Integer.MIN_VALUE};
            args[i] = random.nextInt(3) == 0 ? edges[random.nextInt(edges.length)] : random.nextInt(45) - 3;
        }
        return args;
    }

    private int below(int n) {
        return random.nextInt(n);
    }

    private int page() {
        return below(Math.max(1, pages));
    }

    private int[] fitArgs(String name) {
        switch (name) {
            case "row": return new int[] {looseRow(), new int[] {0, 2, 4, 5, 5, 6, 10, 40}[below(8)]};
            case "lay": return layArgs();
            case "at": return new int[] {below(6), below(6)};
            case "mean": case "reached": return new int[] {below(6)};
            case "tear": return new int[] {looseRow()};
            case "copy": return new int[] {below(6), below(4), looseRow(), below(4), below(4)};
            case "text": return new int[] {below(4), below(9)};
            case "put": return new int[] {below(4), below(9), "RHTLNodw Rx".charAt(below(11))};
            case "later": return new int[] {below(4) == 0 ? below(200) : below(10)};
            case "note": return new int[] {1 + below(99), below(1000)};
            case "root": return new int[] {1 + below(4), day(), below(6)};
            case "list": return lists();
            case "together": return new int[] {1 + below(4), day(), page(), below(2) == 0 ? -9 : page()};
            case "hour": return new int[] {1 + below(4), day(), page()};
            case "sign": return new int[] {page(), below(1024) | below(1024)};
            case "told": return new int[] {page(), below(4)};
            case "mark": return new int[] {page(), 1 + below(5)};
            case "good": return new int[] {page(), below(2) == 0 ? page() : below(3)};
            case "sumOf": return new int[] {page(), below(10)};
            case "chain": return new int[] {below(2) == 0 ? page() : below(3)};
            case "whoHas": return new int[] {page()};
            case "fault": case "walk": return new int[] {below(4)};
            case "machine": return new int[] {below(4), below(4), below(4) == 0 ? page() : below(3)};
            case "ask": return new int[] {below(4), 2 + below(3)};
            case "offer": return new int[] {below(4), below(6), new int[] {10, 11, 20, 21, 22, 40, below(1000)}[below(7)]};
            case "runs": return new int[] {below(4), below(10)};
            case "took": return new int[] {below(4), below(5)};
            case "refused": return new int[] {below(5), 1 + below(6)};
            case "noisy": return new int[] {1 + below(6), 2 + below(4), looseRow()};
            case "harm": return new int[] {below(4), below(3), below(4), below(1024)};
            case "least": return new int[] {below(4), below(3), below(4)};
            case "share": return new int[] {below(4), below(3), below(4), below(11)};
            case "askings": return new int[] {below(3), 1023 & ~below(8), below(5), below(6)};
            case "writes": return new int[] {below(4), 1 + below(5), below(5)};
            case "neither": return new int[] {below(4), 1 + below(40)};
            case "count": return new int[] {below(8)};
            case "findings": return new int[] {1 + below(5)};
            default: return new int[0];
        }
    }

    /** Rows 2 to 4 hold copies and are seldom spoiled, so that machines come to their last steps. */
    private int looseRow() {
        return below(40) == 0 ? below(6) : new int[] {0, 1, 5}[below(3)];
    }

    private int[] layArgs() {
        int r = below(6);
        if (r < 2 || r > 4) {
            return new int[] {r, below(6), below(120) - 10};
        }
        int which = below(5);
        return new int[] {r, which, below(8) == 0 ? -9 : below(3) == 0 ? page() : pageOfKind(KINDS[which])};
    }

    private int pageOfKind(int kind) {
        int start = page();
        for (int i = 0; i < pages; i++) {
            int p = (start + i) % pages;
            if (kinds.get(p) == kind) {
                return p;
            }
        }
        return start;
    }

    private int[] lists() {
        int lent = below(2);
        return new int[] {1 + below(4), day(), below(6), lent == 1 ? 0 : below(8), lent};
    }

    private void call(String name, int... args) throws ReflectiveOperationException {
        Object[] boxed = new Object[args.length];
        StringBuilder said = new StringBuilder(name);
        for (int i = 0; i < args.length; i++) {
            boolean truth = methods.get(name).getParameterTypes()[i] == boolean.class;
            boxed[i] = truth ? (Object) (args[i] != 0) : (Object) args[i];
            said.append(i == 0 ? "(" : ", ").append(args[i]);
        }
        long got;
        try {
            got = ((Number) methods.get(name).invoke(real, boxed)).longValue();
        } catch (InvocationTargetException thrown) {
            throw new IllegalStateException(said + " threw", thrown.getCause());
        }
        used++;
        Check.due(said.toString(), got, model.call(name, args));
        notePages(name, args, got);
        if (looking) {
            boolean refused = got <= -1 && got >= -4 && !name.equals("digest") && !name.equals("asked");
            look(said.toString(), refused, args);
        }
        seen.computeIfAbsent(name, n -> new HashMap<>()).merge(got, 1, Integer::sum);
    }

    private void notePages(String name, int[] args, long got) {
        int kind = List.of("note", "root", "list", "lent", "together", "hour").indexOf(name);
        if (kind >= 0 && got >= 0) {
            kinds.add(name.equals("list") && args[4] != 0 ? kind + 1 : kind);
            pages++;
            Check.due("pages", got, pages - 1);
        }
    }

    private void look(String said, boolean refused, int[] args) {
        long digestBefore = latestDigest;
        int askedBefore = latestAsked;
        latestDigest = real.digest();
        latestAsked = real.asked();
        used += 2;
        Check.due(said + ": digest()", latestDigest, model.call("digest", args));
        Check.due(said + ": asked()", latestAsked, model.call("asked", args));
        if (refused) {
            used++;
            Check.due(said + ": finding()", real.finding(), model.call("finding", args));
            Check.due(said + ": changes nothing", latestDigest, digestBefore);
            Check.due(said + ": asked() stays", latestAsked, askedBefore);
        }
    }

    /** The runs must have come to all WHYs and refusals, or they would prove little. */
    private void dueSeen() {
        for (int step = 0; step < 5; step++) {
            for (int why = 1; why <= 6; why++) {
                boolean was = seen.get("ask").containsKey(10L * step + why);
                Check.due("ask came to " + (10 * step + why), was ? 1 : 0, 1);
            }
        }
        for (long answer : new long[] {-9, 7, 8, -1, -3}) {
            Check.due("offer came to " + answer, seen.get("offer").containsKey(answer) ? 1 : 0, 1);
        }
        for (String name : new String[] {"machine", "harm", "least", "share"}) {
            Check.due(name + " came to STATE", seen.get(name).containsKey(-4L) ? 1 : 0, 1);
        }
        for (String name : new String[] {"note", "root", "list", "together", "hour"}) {
            Check.due(name + " came to FULL", seen.get(name).containsKey(-2L) ? 1 : 0, 1);
        }
        Check.due("askings came to NONE", seen.get("askings").containsKey(-9L) ? 1 : 0, 1);
        Check.due("askings came to prices", seen.get("askings").size() > 10 ? 1 : 0, 1);
    }
}
