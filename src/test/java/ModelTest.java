import java.util.ArrayList;
import java.util.Arrays;
import java.util.List;
import java.util.Random;

/** Many runs of calls, each answered by the class and by a plain model that holds nothing but what it was told. */
public final class ModelTest {
    private static final int RUNS = 1500;
    private static final int CALLS = 300;
    private static final String[] NAMES = {"choice", "term", "rule", "limit", "number", "value", "legal", "beats",
        "undominated", "at", "best", "looked", "bound", "near", "slack", "walk", "lowest", "matters", "sweep", "count"};

    /** The document's words, each worked out anew at every call. */
    private static final class Model {
        long x;
        final List<Integer> sizes = new ArrayList<>();
        final List<int[]> terms = new ArrayList<>();
        final List<int[]> rules = new ArrayList<>();
        final Integer[] limits = new Integer[4];
        int slack = 0;
        int looked = 0;
        int lowest = -1;
        int moved = 0;
        int swept = 0;
        int sweptLegal = 0;
        Integer bestDesign;

        Model(int seed) {
            x = seed & 0x7fffffffL;
        }

        int designs() {
            int all = 1;
            for (int s : sizes) {
                all *= s;
            }
            return all;
        }

        int[] valuesOf(int design) {
            int[] values = new int[sizes.size()];
            int rest = design;
            for (int c = values.length - 1; c >= 0; c--) {
                values[c] = rest % sizes.get(c);
                rest /= sizes.get(c);
            }
            return values;
        }

        int designOf(int[] values) {
            int design = 0;
            for (int c = 0; c < values.length; c++) {
                design = design * sizes.get(c) + values[c];
            }
            return design;
        }

        boolean isDesign(int d) {
            return 0 <= d && d < designs();
        }

        boolean isNumber(int n) {
            return 0 <= n && n <= 3;
        }

        boolean isChoice(int c) {
            return 0 <= c && c < sizes.size();
        }

        boolean isValue(int c, int v) {
            return isChoice(c) && 0 <= v && v < sizes.get(c);
        }

        long sum(int design, int number) {
            int[] values = valuesOf(design);
            long sum = 0;
            for (int[] t : terms) {
                if (t[0] == number && values[t[1]] == t[2] && (t[3] == -1 || values[t[3]] == t[4])) {
                    sum += t[5];
                }
            }
            return sum;
        }

        long cost(int design) {
            return sum(design, 0) + sum(design, 1) + sum(design, 2) + sum(design, 3);
        }

        boolean isLegal(int design) {
            int[] values = valuesOf(design);
            for (int[] r : rules) {
                if (values[r[0]] == r[1] && values[r[2]] == r[3]) {
                    return false;
                }
            }
            for (int n = 0; n < 4; n++) {
                if (limits[n] != null && sum(design, n) > limits[n]) {
                    return false;
                }
            }
            return true;
        }

        static boolean beat(long[] a, long[] b) {
            boolean less = false;
            for (int n = 0; n < 4; n++) {
                if (a[n] > b[n]) {
                    return false;
                }
                less |= a[n] < b[n];
            }
            return less;
        }

        long[] numbersOf(int design) {
            return new long[] {sum(design, 0), sum(design, 1), sum(design, 2), sum(design, 3)};
        }

        List<Integer> front() {
            List<Integer> legal = new ArrayList<>();
            List<long[]> numbers = new ArrayList<>();
            for (int d = 0; d < designs(); d++) {
                if (isLegal(d)) {
                    legal.add(d);
                    numbers.add(numbersOf(d));
                }
            }
            List<Integer> front = new ArrayList<>();
            for (int i = 0; i < legal.size(); i++) {
                boolean beaten = false;
                for (int j = 0; j < legal.size() && !beaten; j++) {
                    beaten = beat(numbers.get(j), numbers.get(i));
                }
                if (!beaten) {
                    front.add(legal.get(i));
                }
            }
            return front;
        }

        /** Choices of the row that are set have a value, the others are null. */
        long boundOf(int number, Integer[] row) {
            long bound = 0;
            for (int[] t : terms) {
                if (t[0] != number) {
                    continue;
                }
                boolean sure = true;
                boolean may = true;
                for (int i = 1; i <= 3; i += 2) {
                    if (t[i] != -1) {
                        sure &= row[t[i]] != null && row[t[i]] == t[i + 1];
                        may &= row[t[i]] == null || row[t[i]] == t[i + 1];
                    }
                }
                if (sure || may && t[5] < 0) {
                    bound += t[5];
                }
            }
            return bound;
        }

        Integer[] rowOf(int design, int set) {
            int[] values = valuesOf(design);
            Integer[] row = new Integer[values.length];
            for (int c = 0; c < set; c++) {
                row[c] = values[c];
            }
            return row;
        }

        void depthByDepth(int number, Integer[] row, int set) {
            looked++;
            for (int[] r : rules) {
                if (row[r[0]] != null && row[r[0]] == r[1] && row[r[2]] != null && row[r[2]] == r[3]) {
                    return;
                }
            }
            for (int n = 0; n < 4; n++) {
                if (limits[n] != null && boundOf(n, row) > limits[n]) {
                    return;
                }
            }
            if (bestDesign != null && boundOf(number, row) >= sum(bestDesign, number)) {
                return;
            }
            if (set == row.length) {
                int[] values = new int[set];
                for (int c = 0; c < set; c++) {
                    values[c] = row[c];
                }
                bestDesign = designOf(values);
                return;
            }
            for (int v = 0; v < sizes.get(set); v++) {
                Integer[] longer = row.clone();
                longer[set] = v;
                depthByDepth(number, longer, set + 1);
            }
        }

        int leastByAll(int number) {
            int least = -1;
            for (int d = 0; d < designs(); d++) {
                if (isLegal(d) && (least == -1 || sum(d, number) < sum(least, number))) {
                    least = d;
                }
            }
            return least;
        }

        List<Integer> around(int design) {
            List<Integer> all = new ArrayList<>();
            int[] values = valuesOf(design);
            for (int c = 0; c < values.length; c++) {
                for (int v = 0; v < sizes.get(c); v++) {
                    if (v != values[c]) {
                        int[] other = values.clone();
                        other[c] = v;
                        all.add(designOf(other));
                    }
                }
            }
            return all;
        }

        int walkFrom(int design, int steps) {
            int here = design;
            lowest = design;
            moved = 0;
            for (int i = 0; i < steps; i++) {
                x = (1103515245L * x + 12345L) % (1L << 31);
                List<Integer> all = around(here);
                int there = all.get((int) (x / 65536 % all.size()));
                if (isLegal(there) && cost(there) <= cost(here) + slack) {
                    here = there;
                    moved++;
                    if (cost(here) < cost(lowest)) {
                        lowest = here;
                    }
                }
            }
            return here;
        }

        long mattersBy(int choice, int number) {
            long most = 0;
            for (int d = 0; d < designs(); d++) {
                for (int e : around(d)) {
                    if (valuesOf(d)[choice] != valuesOf(e)[choice] && isLegal(d) && isLegal(e)) {
                        most = Math.max(most, Math.abs(sum(d, number) - sum(e, number)));
                    }
                }
            }
            return most;
        }

        static void need(boolean holds, RuntimeException otherwise) {
            if (!holds) {
                throw otherwise;
            }
        }

        long answer(int call, int[] a) {
            RuntimeException bounds = new IndexOutOfBoundsException();
            RuntimeException argument = new IllegalArgumentException();
            RuntimeException unsupported = new UnsupportedOperationException();
            RuntimeException state = new IllegalStateException();
            switch (NAMES[call]) {
                case "choice":
                    need(a[0] >= 2 && a[0] <= 6, argument);
                    need(sizes.size() < 8 && designs() * a[0] <= 4096, unsupported);
                    sizes.add(a[0]);
                    swept = 0;
                    sweptLegal = 0;
                    return sizes.size() - 1;
                case "term":
                    need(isNumber(a[0]) && isValue(a[1], a[2]) && (a[3] == -1 || isValue(a[3], a[4])), bounds);
                    need(a[1] != a[3] && Math.abs((long) a[5]) <= 1000000, argument);
                    need(terms.size() < 100, unsupported);
                    terms.add(a.clone());
                    return terms.size();
                case "rule":
                    need(isValue(a[0], a[1]) && isValue(a[2], a[3]), bounds);
                    need(a[0] != a[2], argument);
                    need(rules.size() < 40, unsupported);
                    rules.add(a.clone());
                    return rules.size();
                case "limit":
                    need(isNumber(a[0]), bounds);
                    boolean had = limits[a[0]] != null;
                    limits[a[0]] = a[1] % 2 != 0 ? (Integer) a[2] : null;
                    return had ? 1 : 0;
                case "number":
                    need(isDesign(a[0]) && isNumber(a[1]), bounds);
                    return sum(a[0], a[1]);
                case "value":
                    need(isDesign(a[0]) && isChoice(a[1]), bounds);
                    return valuesOf(a[0])[a[1]];
                case "legal":
                    need(isDesign(a[0]), bounds);
                    return isLegal(a[0]) ? 1 : 0;
                case "beats":
                    need(isDesign(a[0]) && isDesign(a[1]), bounds);
                    need(isLegal(a[0]) && isLegal(a[1]), argument);
                    return beat(numbersOf(a[0]), numbersOf(a[1])) ? 1 : 0;
                case "undominated":
                    return front().size();
                case "at":
                    List<Integer> front = front();
                    need(a[0] >= 0 && a[0] < front.size(), bounds);
                    return front.get(a[0]);
                case "best":
                    need(isNumber(a[0]), bounds);
                    bestDesign = null;
                    looked = 0;
                    depthByDepth(a[0], new Integer[sizes.size()], 0);
                    int best = bestDesign == null ? -1 : bestDesign;
                    need(best == leastByAll(a[0]), new RuntimeException("the model is at odds with itself"));
                    return best;
                case "looked":
                    return looked;
                case "bound":
                    need(isNumber(a[0]) && isDesign(a[1]) && a[2] >= 0 && a[2] <= sizes.size(), bounds);
                    return boundOf(a[0], rowOf(a[1], a[2]));
                case "near":
                    need(isDesign(a[0]), bounds);
                    need(a[1] >= 0 && a[1] < around(a[0]).size(), bounds);
                    return around(a[0]).get(a[1]);
                case "slack":
                    need(a[0] >= 0, argument);
                    int before = slack;
                    slack = a[0];
                    return before;
                case "walk":
                    need(isDesign(a[0]), bounds);
                    need(isLegal(a[0]) && a[1] >= 1 && a[1] <= 1000, argument);
                    need(!sizes.isEmpty(), state);
                    return walkFrom(a[0], a[1]);
                case "lowest":
                    return lowest;
                case "matters":
                    need(isChoice(a[0]) && isNumber(a[1]), bounds);
                    return mattersBy(a[0], a[1]);
                case "sweep":
                    need(a[0] >= 1 && a[0] <= 5000, argument);
                    need(swept < designs(), state);
                    int legal = 0;
                    for (int i = 0; i < a[0] && swept < designs(); i++) {
                        legal += isLegal(swept) ? 1 : 0;
                        swept++;
                    }
                    sweptLegal += legal;
                    return legal;
                default:
                    int on = 0;
                    for (Integer limit : limits) {
                        on += limit != null ? 1 : 0;
                    }
                    int[] counts = {sizes.size(), designs(), terms.size(), rules.size(), on, slack,
                        swept < designs() ? swept : -1, sweptLegal, moved};
                    return a[0] >= 0 && a[0] < counts.length ? counts[a[0]] : -1;
            }
        }
    }

    private static long ask(DesignSpaces x, int call, int[] a) {
        switch (NAMES[call]) {
            case "choice": return x.choice(a[0]);
            case "term": return x.term(a[0], a[1], a[2], a[3], a[4], a[5]);
            case "rule": return x.rule(a[0], a[1], a[2], a[3]);
            case "limit": return x.limit(a[0], a[1] % 2 != 0, a[2]) ? 1 : 0;
            case "number": return x.number(a[0], a[1]);
            case "value": return x.value(a[0], a[1]);
            case "legal": return x.legal(a[0]) ? 1 : 0;
            case "beats": return x.beats(a[0], a[1]) ? 1 : 0;
            case "undominated": return x.undominated();
            case "at": return x.at(a[0]);
            case "best": return x.best(a[0]);
            case "looked": return x.looked();
            case "bound": return x.bound(a[0], a[1], a[2]);
            case "near": return x.near(a[0], a[1]);
            case "slack": return x.slack(a[0]);
            case "walk": return x.walk(a[0], a[1]);
            case "lowest": return x.lowest();
            case "matters": return x.matters(a[0], a[1]);
            case "sweep": return x.sweep(a[0]);
            default: return x.count(a[0]);
        }
    }

    /** Draws arguments that are mostly good ones, and now and then far off. */
    private static final class Draw {
        final Random random;
        final Model model;
        final int spread;

        Draw(Random random, Model model) {
            this.random = random;
            this.model = model;
            this.spread = new int[] {1, 3, 20, 1000000}[random.nextInt(4)];
        }

        int below(int n) {
            int odd = random.nextInt(60);
            if (odd == 0) {
                return n;
            }
            if (odd == 1) {
                return -1 - random.nextInt(2);
            }
            if (odd == 2) {
                return new int[] {Integer.MIN_VALUE, Integer.MAX_VALUE, n + 1, -2}[random.nextInt(4)];
            }
            return n > 0 ? random.nextInt(n) : 0;
        }

        int choice() {
            return below(model.sizes.size());
        }

        int valueOf(int c) {
            return below(model.isChoice(c) ? model.sizes.get(c) : 3);
        }

        int weight() {
            return random.nextInt(80) == 0 ? new int[] {1000001, -1000001, 1000000, -1000000, Integer.MIN_VALUE}[random.nextInt(5)]
                : random.nextInt(2 * spread + 1) - spread;
        }

        int[] arguments(int call) {
            int design = below(model.designs());
            int number = below(4);
            int a = choice();
            int b = choice();
            switch (NAMES[call]) {
                case "choice": return new int[] {2 + below(random.nextInt(3) == 0 ? 5 : 3)};
                case "term":
                    b = random.nextInt(3) == 0 ? -1 : b;
                    return new int[] {number, a, valueOf(a), b, valueOf(b), weight()};
                case "rule": return new int[] {a, valueOf(a), b, valueOf(b)};
                case "limit": return new int[] {number, random.nextInt(3), random.nextInt(5) == 0
                    ? below(1) : random.nextInt(6 * spread + 1) - 2 * spread};
                case "number": return new int[] {design, number};
                case "value": return new int[] {design, a};
                case "beats": return new int[] {design, below(model.designs())};
                case "at": return new int[] {below(random.nextBoolean() ? 4 : model.front().size())};
                case "best": return new int[] {number};
                case "bound": return new int[] {number, design, below(model.sizes.size() + 1)};
                case "near": return new int[] {design, below(model.isDesign(design) ? model.around(design).size() : 2)};
                case "slack": return new int[] {random.nextInt(20) == 0 ? below(1) : random.nextInt(2 * spread)};
                case "walk": return new int[] {design, random.nextInt(8) == 0 ? below(1001) : 1 + below(12)};
                case "matters": return new int[] {a, number};
                case "sweep": return new int[] {random.nextInt(8) == 0 ? below(5001) : 1 + below(model.designs())};
                case "count": return new int[] {below(9)};
                default: return new int[] {design};
            }
        }

        int call(int done) {
            if (done < 12 && random.nextInt(3) == 0 && model.designs() <= 24) {
                return 0;
            }
            int call = random.nextInt(NAMES.length);
            boolean grows = call == 0 && model.designs() > 24 && random.nextInt(6) != 0;
            boolean bars = call == 2 && random.nextInt(3) != 0;
            return grows || bars ? 1 : call;
        }
    }

    private static String told(int call, int[] a) {
        return NAMES[call] + Arrays.toString(a);
    }

    private static String answerOf(DesignSpaces x, Model model, int call, int[] a) {
        try {
            return String.valueOf(x != null ? ask(x, call, a) : model.answer(call, a));
        } catch (RuntimeException e) {
            return "throws " + e.getClass().getName();
        }
    }

    private static boolean isRunRight(int run, int[] good) {
        Random random = new Random(run);
        int seed = random.nextInt();
        DesignSpaces x = new DesignSpaces(seed);
        Model model = new Model(seed);
        Draw draw = new Draw(random, model);
        for (int done = 0; done < CALLS; done++) {
            if (model.designs() > 300 && done > 60) {
                break;
            }
            int call = draw.call(done);
            int[] a = draw.arguments(call);
            String want = answerOf(null, model, call, a);
            String got = answerOf(x, model, call, a);
            if (!got.equals(want)) {
                System.out.println("run " + run + ", call " + done + ": " + told(call, a) + " answered " + got + ", due is " + want);
                return false;
            }
            good[call] += want.startsWith("throws") ? 0 : 1;
        }
        return true;
    }

    public static void main(String[] args) {
        int[] good = new int[NAMES.length];
        int wrong = 0;
        for (int run = 0; run < RUNS; run++) {
            wrong += isRunRight(run, good) ? 0 : 1;
        }
        for (int call = 0; call < good.length; call++) {
            if (good[call] < 500) {
                System.out.println("too few good calls of " + NAMES[call] + ": " + good[call]);
                wrong++;
            }
        }
        System.out.println("ModelTest: " + RUNS + " runs, " + wrong + " wrong");
        if (wrong != 0) {
            System.exit(1);
        }
    }
}
