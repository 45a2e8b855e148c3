import java.util.ArrayList;
import java.util.List;
import java.util.Random;
import java.util.TreeMap;

/**
 * Random runs of 512 calls, each answer held against the model's; the seeds are fixed, so that every run comes again. Some go
 * on far behind the 512th call: what is answered there is free, but the machine must not throw there either.
 */
final class RandomRunsTest {
    private static final int RUNS = 1500;
    private static final int CALLS = 512;
    private static final int LONG_RUNS = 20;
    private static final int LONG_CALLS = 4000;
    private static final int FILE_IS_FULL = 1500;
    private static final long[] ODD = {
        -1, -2, Integer.MIN_VALUE, Integer.MAX_VALUE, 1L << 32, -(1L << 32), Long.MIN_VALUE, Long.MAX_VALUE,
    };

    private final Random random;
    private final SignatureSpans program = new SignatureSpans();
    private final Model model = new Model();
    private final List<String> told = new ArrayList<>();
    private final List<long[]> firstSpans = new ArrayList<>();
    private final int oddness;
    private int size;
    private int signatures;

    private RandomRunsTest(long seed) {
        random = new Random(seed);
        oddness = 3 + random.nextInt(60);
    }

    public static void main(String[] args) {
        TreeMap<String, Integer> seen = new TreeMap<>();
        for (int run = 0; run < RUNS; run++) {
            RandomRunsTest test = new RandomRunsTest(run);
            test.run(run, CALLS, test.random.nextInt(100), seen);
            test.compareAll(run);
        }
        for (int run = RUNS; run < RUNS + LONG_RUNS; run++) {
            RandomRunsTest test = new RandomRunsTest(run);
            test.run(run, LONG_CALLS, test.random.nextInt(FILE_IS_FULL + 100), seen);
            test.compareAll(run);
        }
        for (int verdict = 1; verdict <= 8; verdict++) {
            Check.isSo("runs reach holds " + verdict + ": " + seen, seen.getOrDefault("holds " + verdict, 0) >= 100);
        }
        for (String call : new String[] {"add", "chain", "change", "place", "sign", "stamp"}) {
            String full = call + " throws.UnsupportedOperationException";
            Check.isSo("runs reach " + full + ": " + seen, seen.getOrDefault(full, 0) >= 20);
        }
        Check.end();
    }

    private void run(int run, int calls, int first, TreeMap<String, Integer> seen) {
        for (int n = 0; n < calls; n++) {
            int which = n < first ? 0 : random.nextInt(40);
            String answer = step(which);
            seen.merge(answer.startsWith("holds") || answer.contains("throws.") ? answer : "other", 1, Integer::sum);
            if (!told.isEmpty()) {
                Check.isSo("run " + run + ", call " + n + ": " + told, false);
                return;
            }
        }
    }

    private String step(int which) {
        int s = number(Math.max(signatures, 1));
        switch (which) {
            case 0, 1, 2: {
                byte b = (byte) random.nextInt(256);
                return same("add", () -> program.add(b), () -> model.add(b));
            }
            case 3, 4: {
                long i = wide(size);
                int mask = random.nextInt(3) == 0 ? 256 : 1 << random.nextInt(2);
                return same("poke", () -> program.poke(i, mask), () -> model.poke(i, mask));
            }
            case 5, 6: {
                long from = wide(size);
                long to = random.nextInt(oddness) == 0 ? wide(size) : from + random.nextInt(4);
                return same("place", () -> program.place(from, to), () -> model.place(from, to));
            }
            case 7, 8: {
                int field = number(20);
                boolean verdict = random.nextInt(8) != 0;
                long time = wide(8);
                return same("sign", () -> program.sign(field, verdict, time), () -> model.sign(field, verdict, time));
            }
            case 9, 10, 11, 12, 13, 14:
                return same("holds", () -> program.holds(s), () -> model.holds(s));
            case 15, 16: {
                int i = number(2);
                int side = number(2);
                return same("span", () -> program.span(s, i, side), () -> model.span(s, i, side));
            }
            case 17, 18, 19, 20:
                return tellOne(s);
            case 21, 22, 23: {
                long from = wide(5);
                long to = random.nextInt(oddness) == 0 ? wide(9) : from + 4 + random.nextInt(6);
                return same("chain", () -> program.chain(s, from, to), () -> model.chain(s, from, to));
            }
            default:
                return stepMore(which, s);
        }
    }

    private String stepMore(int which, int s) {
        int i = number(random.nextBoolean() ? 6 : 40);
        int what = number(4);
        switch (which) {
            case 24, 25, 26: {
                int kind = number(random.nextInt(4) == 0 ? 4 : 2);
                int field = number(20);
                return same("change", () -> program.change(kind, field), () -> model.change(kind, field));
            }
            case 27, 28: {
                int kinds = random.nextInt(4) == 0 ? random.nextInt() : 3 | random.nextInt(16);
                return same("allow", () -> program.allow(s, kinds), () -> model.allow(s, kinds));
            }
            case 29: {
                int field = number(20);
                return same("lock", () -> program.lock(s, field), () -> model.lock(s, field));
            }
            case 30: {
                int level = random.nextInt(4) == 0 ? number(5) : 3;
                return same("certify", () -> program.certify(s, level), () -> model.certify(s, level));
            }
            case 31, 32, 33: {
                int at = random.nextInt(4) == 0 ? -1 : i;
                return same("since", () -> program.since(s, at, what), () -> model.since(s, at, what));
            }
            case 34: {
                int at = number(32);
                return same("digest", () -> program.digest(s, at), () -> model.digest(s, at));
            }
            case 35:
                return same("behind", () -> program.behind(s), () -> model.behind(s));
            case 36: {
                long time = wide(6);
                return same("stamp", () -> program.stamp(time), () -> model.stamp(time));
            }
            default: {
                int at = random.nextInt(6) == 0 ? -1 : number(10);
                return same("stamped", () -> program.stamped(at, what), () -> model.stamped(at, what));
            }
        }
    }

    /** Mostly told as it should be, so that the runs come to what stands behind the spans. */
    private String tellOne(int s) {
        int i = number(2);
        boolean right = random.nextInt(8) != 0 && s >= 0 && s < signatures && (i == 0 || i == 1);
        long[] ends = right ? rightEnds(s, i) : new long[] {wide(size), wide(size)};
        return same("tell", () -> tell(program, s, i, ends), () -> tell(model, s, i, ends));
    }

    private long[] rightEnds(int s, int i) {
        long[] four = firstSpans.get(s);
        return new long[] {four[2 * i], four[2 * i + 1]};
    }

    private static long tell(SignatureSpans x, int s, int i, long[] ends) {
        x.tell(s, i, ends[0], ends[1]);
        return 0;
    }

    private static long tell(Model x, int s, int i, long[] ends) {
        x.tell(s, i, ends[0], ends[1]);
        return 0;
    }

    private String same(String name, Check.Call one, Check.Call two) {
        String got = answerOf(one);
        String want = answerOf(two);
        if (!got.equals(want)) {
            told.add(name + " answered " + got + ", due is " + want);
        }
        if (name.equals("add") && !want.startsWith("throws")) {
            size++;
        }
        if (name.equals("sign") && !want.startsWith("throws")) {
            int s = signatures;
            signatures++;
            firstSpans.add(new long[] {model.span(s, 0, 0), model.span(s, 0, 1), model.span(s, 1, 0), model.span(s, 1, 1)});
        }
        return name + " " + want;
    }

    private static String answerOf(Check.Call call) {
        try {
            return Long.toString(call.answer());
        } catch (RuntimeException e) {
            return "throws." + e.getClass().getSimpleName();
        }
    }

    private int number(int below) {
        if (random.nextInt(oddness) == 0) {
            return random.nextBoolean() ? below : (int) ODD[random.nextInt(ODD.length)];
        }
        return random.nextInt(below);
    }

    private long wide(int below) {
        if (below == 0 || random.nextInt(oddness) == 0) {
            return random.nextBoolean() ? below : ODD[random.nextInt(ODD.length)];
        }
        return random.nextInt(below);
    }

    /** All that can be seen at a run's end, so that nothing that a throwing call changed stays hidden. */
    private void compareAll(int run) {
        for (int n = 0; n < size; n++) {
            int at = n;
            same("poke " + n, () -> program.poke(at, 0), () -> model.poke(at, 0));
        }
        for (int n = 0; n <= 8; n++) {
            int s = n;
            same("holds " + n, () -> program.holds(s), () -> model.holds(s));
            same("behind " + n, () -> program.behind(s), () -> model.behind(s));
            for (int k = -1; k <= 40; k++) {
                int i = k;
                for (int w = 0; w <= 3; w++) {
                    int what = w;
                    same("since", () -> program.since(s, i, what), () -> model.since(s, i, what));
                    same("span", () -> program.span(s, i, what), () -> model.span(s, i, what));
                    same("stamped", () -> program.stamped(i, what), () -> model.stamped(i, what));
                }
                same("digest", () -> program.digest(s, i), () -> model.digest(s, i));
            }
            same("allow", () -> program.allow(s, 0), () -> model.allow(s, 0));
            same("certify", () -> program.certify(s, 1), () -> model.certify(s, 1));
        }
        Check.isSo("run " + run + " at its end: " + told, told.isEmpty());
    }
}
