import java.util.ArrayList;
import java.util.Arrays;
import java.util.Comparator;
import java.util.List;
import java.util.Random;
import java.util.TreeSet;

/**
 * Runs of calls, drawn with fixed seeds, on a NearBook and on a second book that follows
 * the document's words one by one with no thought of speed: each answer must be the same.
 */
public final class PlainModelTest {
    private static final int RUNS = 1000;
    // What an object answers after so many calls is free, so no run goes beyond.
    private static final int CALLS = 512;
    private static final int MOST_ON_A_LINE = 13;
    private static final int LONGEST_CHANGE = MOST_ON_A_LINE * (MOST_ON_A_LINE - 1) / 2;
    private static final int LONGEST_ASK = 12;
    private static final int NONE = -1;
    private static final int[] ODD = {
        Integer.MIN_VALUE, Integer.MIN_VALUE + 9, -1001, -1, 0, 1, 2, 3, 7, 8, 9, 10, 59, 60, 61, 69,
        70, 1000, 1001, 100000, 100001, Integer.MAX_VALUE - 9, Integer.MAX_VALUE
    };

    private static int wrong = 0;

    private final Random random;
    private final NearBook book = new NearBook();
    private final Plain plain = new Plain();
    private final int run;
    private final int mostThings;
    private final int spread;
    private final int toldSpread;

    private PlainModelTest(int run) {
        this.run = run;
        random = new Random(run);
        mostThings = run % 25 == 0 ? 60 : 2 + random.nextInt(MOST_ON_A_LINE - 1);
        spread = new int[] {1, 2, 4, 30, 1000}[random.nextInt(5)];
        toldSpread = new int[] {0, 1, 3, 50000, 100000}[random.nextInt(5)];
    }

    public static void main(String[] args) {
        long calls = 0;
        for (int run = 0; run < RUNS && wrong < 20; run++) {
            calls += new PlainModelTest(run).play();
        }
        System.out.println("PlainModelTest: " + calls + " answers, " + wrong + " not as due");
        if (wrong != 0) {
            System.exit(1);
        }
    }

    private int play() {
        int calls = 0;
        for (int i = 0; i < mostThings; i++) {
            calls += build();
        }
        while (calls + LONGEST_CHANGE <= CALLS && wrong < 20) {
            calls += random.nextInt(3) == 0 ? change() : ask();
        }
        while (calls + LONGEST_ASK <= CALLS && wrong < 20) {
            calls += ask();
        }
        return calls;
    }

    private void due(String call, long got, long want) {
        if (got != want) {
            wrong++;
            System.out.println("run " + run + ": " + call + " answered " + got + ", due is " + want);
        }
    }

    private int build() {
        int n = random.nextInt(4) == 0 ? 8 : random.nextInt(9);
        due("thing(" + n + ")", book.thing(n), plain.thing(n));
        int t = plain.rows.size() - 1;
        if (random.nextInt(4) != 0) {
            due("put(" + t + ")", one(book.put(t)), plain.put(t));
        }
        int values = mostThings == 60 ? Math.min(n, 2) : n;
        for (int i = 0; i < values; i++) {
            value(t, i, drawValue());
        }
        return 2 + values;
    }

    private int change() {
        switch (random.nextInt(9)) {
            case 0:
                int n = random.nextInt(3) == 0 ? odd() : random.nextInt(9);
                if (plain.rows.size() < mostThings || n < 0 || n > 8 || mostThings == 60) {
                    due("thing(" + n + ")", book.thing(n), plain.thing(n));
                }
                return 1;
            case 1:
            case 2:
                value(drawThing(), drawSmall(), random.nextInt(20) == 0 ? odd() : drawValue());
                return 1;
            case 3:
                tell(drawThing(), drawThing(), random.nextInt(20) == 0 ? odd() : drawTold());
                return 1;
            case 4:
                int k = random.nextInt(15) == 0 ? odd() : random.nextInt(6);
                due("kind(" + k + ")", one(book.kind(k)), plain.kind(k));
                return 1;
            case 5:
                return plain.rows.size() <= MOST_ON_A_LINE ? tellLine() : tellTwoHeaps();
            case 6:
                int out = drawThing();
                due("drop(" + out + ")", one(book.drop(out)), plain.drop(out));
                return 1;
            default:
                int in = drawThing();
                due("put(" + in + ")", one(book.put(in)), plain.put(in));
                return 1;
        }
    }

    /** Told distances of which the law holds: things on a line, maybe stretched a little. */
    private int tellLine() {
        int size = plain.rows.size();
        int[] places = new int[size];
        for (int t = 0; t < size; t++) {
            places[t] = random.nextInt(toldSpread / 2 + 1);
        }
        int more = random.nextInt(2) * random.nextInt(toldSpread / 2 + 1);
        int calls = 0;
        for (int a = 0; a < size; a++) {
            for (int b = 0; b < a; b++) {
                tell(a, b, Math.abs(places[a] - places[b]) + more);
                calls++;
            }
        }
        return calls;
    }

    /** For many things: one apart from all others, which are 0 apart. */
    private int tellTwoHeaps() {
        int size = plain.rows.size();
        int apart = random.nextInt(toldSpread + 1);
        int alone = random.nextInt(3) * (size - 1) / 2;
        for (int t = 0; t < size; t++) {
            tell(alone, t, apart);
        }
        return size;
    }

    private void value(int t, int i, int v) {
        due("value(" + t + ", " + i + ", " + v + ")", one(book.value(t, i, v)), plain.value(t, i, v));
    }

    private void tell(int a, int b, int d) {
        due("tell(" + a + ", " + b + ", " + d + ")", one(book.tell(a, b, d)), plain.tell(a, b, d));
    }

    private int ask() {
        int t = drawThing();
        int u = drawThing();
        int n = drawSmall();
        int r = random.nextInt(20) == 0 ? odd() : random.nextInt(2 + (plain.kind == 5 ? toldSpread : 2 * spread));
        switch (random.nextInt(18)) {
            case 0:
                due("distance(" + t + ", " + u + ")", book.distance(t, u), plain.distance(t, u));
                return 1;
            case 1:
                due("law()", book.law(), plain.law());
                return 1;
            case 2:
                due("three(" + n + ")", book.three(n), plain.three(n));
                return 1;
            case 3:
                due("has(" + t + ")", book.has(t), plain.has(t));
                return 1;
            case 4:
                due("nearest(" + t + ", " + n + ")", book.nearest(t, n), plain.nearest(t, n));
                return 1 + askResults();
            case 5:
                due("within(" + t + ", " + r + ")", book.within(t, r), plain.within(t, r));
                return 1 + askResults();
            case 6:
                due("farthest(" + t + ", " + n + ")", book.farthest(t, n), plain.farthest(t, n));
                return 1 + askResults();
            case 7:
                due("closest(" + n + ")", book.closest(n), plain.closest(n));
                return 1;
            case 8:
                due("centres(" + n + ")", book.centres(n), plain.centres(n));
                return 1 + askResults();
            case 9:
                int k = random.nextInt(10) == 0 ? odd() : 1 + random.nextInt(3);
                due("best(" + k + ")", book.best(k), plain.best(k));
                return 1 + askResults();
            case 10:
                due("chain(" + n + ")", book.chain(n), plain.chain(n));
                due("chain(1)", book.chain(1), plain.chain(1));
                return 2;
            case 11:
                int what = random.nextInt(4);
                due("pair(" + n + ", " + what + ")", book.pair(n, what), plain.pair(n, what));
                return 1;
            case 12:
                due("clusters(" + r + ")", book.clusters(r), plain.clusters(r));
                return 1;
            case 13:
                due("cluster(" + t + ", " + r + ")", book.cluster(t, r), plain.cluster(t, r));
                return 1;
            case 14:
                due("net(" + r + ")", book.net(r), plain.net(r));
                return 1 + askResults();
            case 15:
                due("middle(" + n + ")", book.middle(n), plain.middle(n));
                due("middle(1)", book.middle(1), plain.middle(1));
                return 2;
            default:
                int c = random.nextInt(3) == 0 ? odd() : random.nextInt(72);
                due("count(" + c + ")", book.count(c), plain.count(c));
                due("count(4)", book.count(4), plain.count(4));
                return 2;
        }
    }

    private int askResults() {
        int end = Math.min(plain.results.size(), 8);
        for (int i = -1; i <= end; i++) {
            int what = random.nextInt(12) == 0 ? odd() : random.nextInt(2);
            due("result(" + i + ", " + what + ")", book.result(i, what), plain.result(i, what));
        }
        due("count(3)", book.count(3), plain.count(3));
        return end + 3;
    }

    private int odd() {
        return ODD[random.nextInt(ODD.length)];
    }

    private int drawThing() {
        return random.nextInt(25) == 0 ? odd() : random.nextInt(plain.rows.size() + 1);
    }

    private int drawSmall() {
        return random.nextInt(12) == 0 ? odd() : random.nextInt(random.nextInt(4) == 0 ? 60 : 5);
    }

    private int drawValue() {
        return random.nextInt(2 * spread + 1) - spread;
    }

    private int drawTold() {
        return random.nextInt(toldSpread + 1);
    }

    private static int one(boolean yes) {
        return yes ? 1 : 0;
    }

    /** The document, word by word. */
    private static final class Plain {
        final List<int[]> rows = new ArrayList<>();
        final int[][] told = new int[60][60];
        final TreeSet<Integer> inBook = new TreeSet<>();
        List<int[]> results = new ArrayList<>();
        int kind = 0;

        int thing(int n) {
            if (n < 0 || n > 8 || rows.size() == 60) {
                return NONE;
            }
            rows.add(new int[n]);
            return rows.size() - 1;
        }

        int value(int t, int i, int v) {
            if (!is(t) || i < 0 || i >= rows.get(t).length || v < -1000 || v > 1000) {
                return 0;
            }
            rows.get(t)[i] = v;
            return 1;
        }

        int tell(int a, int b, int d) {
            if (!is(a) || !is(b) || a == b || d < 0 || d > 100000) {
                return 0;
            }
            told[a][b] = d;
            told[b][a] = d;
            return 1;
        }

        int kind(int k) {
            if (k < 0 || k > 5) {
                return 0;
            }
            kind = k;
            return 1;
        }

        int distance(int a, int b) {
            return is(a) && is(b) ? far(a, b) : NONE;
        }

        int law() {
            return breakers() == null ? 1 : 0;
        }

        int three(int i) {
            int[] broken = breakers();
            return broken == null || i < 0 || i > 2 ? NONE : broken[i];
        }

        int put(int t) {
            return is(t) && inBook.add(t) ? 1 : 0;
        }

        int drop(int t) {
            return inBook.remove(t) ? 1 : 0;
        }

        int has(int t) {
            return !is(t) ? NONE : inBook.contains(t) ? 1 : 0;
        }

        int nearest(int q, int n) {
            if (!is(q) || n < 1 || n > 60 || law() == 0) {
                return NONE;
            }
            List<int[]> all = from(q);
            all.sort(Comparator.<int[]>comparingInt(x -> x[1]).thenComparingInt(x -> x[0]));
            results = new ArrayList<>(all.subList(0, Math.min(n, all.size())));
            return results.size();
        }

        int within(int q, int r) {
            if (!is(q) || r < 0 || law() == 0) {
                return NONE;
            }
            nearest(q, 60);
            results.removeIf(x -> x[1] > r);
            return results.size();
        }

        int farthest(int q, int n) {
            if (!is(q) || n < 1 || n > 60 || law() == 0) {
                return NONE;
            }
            List<int[]> all = from(q);
            all.sort(Comparator.<int[]>comparingInt(x -> -x[1]).thenComparingInt(x -> x[0]));
            results = new ArrayList<>(all.subList(0, Math.min(n, all.size())));
            return results.size();
        }

        int result(int i, int what) {
            if (i < 0 || i >= results.size() || what < 0 || what > 1) {
                return NONE;
            }
            return results.get(i)[what];
        }

        int closest(int what) {
            if (what < 0 || what > 2 || inBook.size() < 2 || law() == 0) {
                return NONE;
            }
            return pairsInOrder().get(0)[what];
        }

        int centres(int k) {
            if (k < 1 || k > 60 || inBook.isEmpty() || law() == 0) {
                return NONE;
            }
            results = new ArrayList<>();
            List<Integer> taken = new ArrayList<>();
            taken.add(inBook.first());
            results.add(new int[] {inBook.first(), 0});
            while (taken.size() < Math.min(k, inBook.size())) {
                int next = NONE;
                for (int t : inBook) {
                    if (!taken.contains(t) && (next == NONE || gap(t, taken) > gap(next, taken))) {
                        next = t;
                    }
                }
                results.add(new int[] {next, gap(next, taken)});
                taken.add(next);
            }
            return radius(taken);
        }

        int best(int k) {
            if (k < 1 || k > 3 || inBook.size() < k || law() == 0) {
                return NONE;
            }
            List<Integer> all = new ArrayList<>(inBook);
            List<List<Integer>> choices = new ArrayList<>();
            for (int a = 0; a < all.size(); a++) {
                if (k == 1) {
                    choices.add(List.of(all.get(a)));
                }
                for (int b = a + 1; b < all.size() && k > 1; b++) {
                    if (k == 2) {
                        choices.add(List.of(all.get(a), all.get(b)));
                    }
                    for (int c = b + 1; c < all.size() && k > 2; c++) {
                        choices.add(List.of(all.get(a), all.get(b), all.get(c)));
                    }
                }
            }
            List<Integer> best = null;
            int least = Integer.MAX_VALUE;
            for (List<Integer> choice : choices) {
                int radius = radius(choice);
                if (radius < least) {
                    least = radius;
                    best = choice;
                }
            }
            results = new ArrayList<>();
            for (int t : best) {
                results.add(new int[] {t, 0});
            }
            return least;
        }

        long chain(int what) {
            if (what < 0 || what > 1 || law() == 0) {
                return NONE;
            }
            long sum = 0;
            for (int[] pair : taken()) {
                sum += pair[2];
            }
            return what == 0 ? taken().size() : sum;
        }

        int pair(int i, int what) {
            if (what < 0 || what > 2 || law() == 0 || i < 0 || i >= taken().size()) {
                return NONE;
            }
            return taken().get(i)[what];
        }

        int clusters(int r) {
            if (r < 0 || law() == 0) {
                return NONE;
            }
            TreeSet<Integer> lowest = new TreeSet<>();
            for (int t : inBook) {
                lowest.add(piece(t, r).first());
            }
            return lowest.size();
        }

        int cluster(int t, int r) {
            return !inBook.contains(t) || r < 0 || law() == 0 ? NONE : piece(t, r).first();
        }

        int net(int r) {
            if (r < 0 || law() == 0) {
                return NONE;
            }
            results = new ArrayList<>();
            for (int t : inBook) {
                if (results.stream().allMatch(x -> far(x[0], t) > r)) {
                    results.add(new int[] {t, 0});
                }
            }
            return results.size();
        }

        long middle(int what) {
            if (what < 0 || what > 1 || inBook.isEmpty() || law() == 0) {
                return NONE;
            }
            int middle = inBook.first();
            for (int t : inBook) {
                if (sum(t) < sum(middle)) {
                    middle = t;
                }
            }
            return what == 0 ? middle : sum(middle);
        }

        int count(int what) {
            if (what == 0) {
                return rows.size();
            } else if (what == 1) {
                return inBook.size();
            } else if (what == 2) {
                return kind;
            } else if (what == 3) {
                return results.size();
            } else if (what == 4) {
                return law() == 0 ? NONE : pairsInOrder().stream().mapToInt(x -> x[2]).max().orElse(0);
            }
            long t = what - 10L;
            return t < 0 || t >= rows.size() ? NONE : rows.get((int) t).length;
        }

        private boolean is(int t) {
            return t >= 0 && t < rows.size();
        }

        private int[] breakers() {
            if (kind != 5) {
                return null;
            }
            for (int a = 0; a < rows.size(); a++) {
                for (int b = 0; b < rows.size(); b++) {
                    for (int c = 0; c < rows.size(); c++) {
                        if (told[a][c] > told[a][b] + told[b][c]) {
                            return new int[] {a, b, c};
                        }
                    }
                }
            }
            return null;
        }

        private int far(int a, int b) {
            int[] one = Arrays.copyOf(rows.get(a), 8);
            int[] other = Arrays.copyOf(rows.get(b), 8);
            int unlike = 0;
            int sum = 0;
            int greatest = 0;
            for (int i = 0; i < 8; i++) {
                int differ = Math.abs(one[i] - other[i]);
                unlike += differ == 0 ? 0 : 1;
                sum += differ;
                greatest = Math.max(greatest, differ);
            }
            switch (kind) {
                case 0:
                    return unlike;
                case 1:
                    return edits(rows.get(a), rows.get(b));
                case 2:
                    return sum;
                case 3:
                    return greatest;
                case 4:
                    return only(rows.get(a), rows.get(b)) + only(rows.get(b), rows.get(a));
                default:
                    return told[a][b];
            }
        }

        private static int edits(int[] a, int[] b) {
            int[][] least = new int[a.length + 1][b.length + 1];
            for (int i = 0; i <= a.length; i++) {
                for (int j = 0; j <= b.length; j++) {
                    if (i == 0 || j == 0) {
                        least[i][j] = i + j;
                        continue;
                    }
                    int changed = least[i - 1][j - 1] + (a[i - 1] == b[j - 1] ? 0 : 1);
                    least[i][j] = Math.min(changed, 1 + Math.min(least[i - 1][j], least[i][j - 1]));
                }
            }
            return least[a.length][b.length];
        }

        private static int only(int[] in, int[] notIn) {
            TreeSet<Integer> left = new TreeSet<>();
            Arrays.stream(in).forEach(left::add);
            Arrays.stream(notIn).forEach(left::remove);
            return left.size();
        }

        private List<int[]> from(int q) {
            List<int[]> all = new ArrayList<>();
            for (int t : inBook) {
                all.add(new int[] {t, far(q, t)});
            }
            return all;
        }

        private int gap(int t, List<Integer> centres) {
            int least = Integer.MAX_VALUE;
            for (int centre : centres) {
                least = Math.min(least, far(t, centre));
            }
            return least;
        }

        private int radius(List<Integer> centres) {
            int greatest = 0;
            for (int t : inBook) {
                greatest = Math.max(greatest, gap(t, centres));
            }
            return greatest;
        }

        private List<int[]> pairsInOrder() {
            List<int[]> pairs = new ArrayList<>();
            for (int a : inBook) {
                for (int b : inBook.tailSet(a, false)) {
                    pairs.add(new int[] {a, b, far(a, b)});
                }
            }
            pairs.sort(Comparator.<int[]>comparingInt(x -> x[2])
                .thenComparingInt(x -> x[0]).thenComparingInt(x -> x[1]));
            return pairs;
        }

        private List<int[]> taken() {
            int[] piece = new int[60];
            Arrays.setAll(piece, t -> t);
            List<int[]> taken = new ArrayList<>();
            for (int[] pair : pairsInOrder()) {
                int one = piece[pair[0]];
                int other = piece[pair[1]];
                if (one != other) {
                    taken.add(pair);
                    Arrays.setAll(piece, t -> piece[t] == other ? one : piece[t]);
                }
            }
            return taken;
        }

        private TreeSet<Integer> piece(int t, int r) {
            TreeSet<Integer> piece = new TreeSet<>();
            List<Integer> ahead = new ArrayList<>(List.of(t));
            while (!ahead.isEmpty()) {
                int next = ahead.remove(ahead.size() - 1);
                if (piece.add(next)) {
                    for (int u : inBook) {
                        if (far(next, u) <= r) {
                            ahead.add(u);
                        }
                    }
                }
            }
            return piece;
        }

        private long sum(int t) {
            long sum = 0;
            for (int u : inBook) {
                sum += far(t, u);
            }
            return sum;
        }
    }
}
