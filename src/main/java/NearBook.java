import java.util.Arrays;

/** Things of which nothing is known but how far two are apart, and a book of some of them. */
public final class NearBook {
    public static final int NONE = -1;

    private static final int MOST_THINGS = 60;
    private static final int MOST_VALUES = 8;
    private static final int MOST_BEST = 3;
    private static final int GREATEST_VALUE = 1000;
    // No kind reaches beyond what may be told, so this bounds every distance.
    private static final int GREATEST_DISTANCE = 100000;

    private static final int UNLIKE = 0;
    private static final int EDITS = 1;
    private static final int SUMS = 2;
    private static final int GREATEST = 3;
    private static final int SETS = 4;
    private static final int TOLD = 5;

    private final Rows rows = new Rows();
    private final Table table = new Table();
    private final Distances distances = new Distances(rows, table);
    private final Members members = new Members();
    private final Results results = new Results();
    private final Keys ranked = new Keys();
    private final Chain links = new Chain(members, distances);
    private final Pieces pieces = new Pieces(members, distances);
    private final Centres spread = new Centres(members, distances);
    private final BestCentres search = new BestCentres(members, distances);

    public NearBook() {
    }

    public int thing(int n) {
        if (n < 0 || n > MOST_VALUES || rows.size() >= MOST_THINGS) {
            return NONE;
        }
        return rows.append(n);
    }

    public boolean value(int t, int i, int v) {
        if (!rows.holds(t) || i < 0 || i >= rows.lengthOf(t)) {
            return false;
        }
        if (v < -GREATEST_VALUE || v > GREATEST_VALUE) {
            return false;
        }
        rows.change(t, i, v);
        distances.forgetAllOf(t);
        return true;
    }

    public boolean tell(int a, int b, int d) {
        if (!rows.holds(a) || !rows.holds(b) || a == b || d < 0 || d > GREATEST_DISTANCE) {
            return false;
        }
        table.write(a, b, d);
        distances.forgetPair(a, b);
        return true;
    }

    public boolean kind(int k) {
        if (k < UNLIKE || k > TOLD) {
            return false;
        }
        distances.useKind(k);
        return true;
    }

    public int distance(int a, int b) {
        if (!rows.holds(a) || !rows.holds(b)) {
            return NONE;
        }
        return distances.between(a, b);
    }

    public int law() {
        return distances.lawHolds() ? 1 : 0;
    }

    public int three(int i) {
        if (i < 0 || i > 2 || distances.lawHolds()) {
            return NONE;
        }
        return table.breaker(i);
    }

    public boolean put(int t) {
        if (!rows.holds(t) || members.holds(t)) {
            return false;
        }
        members.insert(t);
        return true;
    }

    public boolean drop(int t) {
        if (!members.holds(t)) {
            return false;
        }
        members.remove(t);
        return true;
    }

    public int has(int t) {
        if (!rows.holds(t)) {
            return NONE;
        }
        return members.holds(t) ? 1 : 0;
    }

    public int nearest(int q, int n) {
        if (!rows.holds(q) || !isHowMany(n) || !distances.lawHolds()) {
            return NONE;
        }
        rankNearFirst(q, GREATEST_DISTANCE);
        return takeRanked(q, n);
    }

    public int within(int q, int r) {
        if (!rows.holds(q) || r < 0 || !distances.lawHolds()) {
            return NONE;
        }
        rankNearFirst(q, r);
        return takeRanked(q, MOST_THINGS);
    }

    public int farthest(int q, int n) {
        if (!rows.holds(q) || !isHowMany(n) || !distances.lawHolds()) {
            return NONE;
        }
        rankFarFirst(q);
        return takeRanked(q, n);
    }

    public int result(int i, int what) {
        if (i < 0 || i >= results.size()) {
            return NONE;
        }
        switch (what) {
            case 0:
                return results.thingAt(i);
            case 1:
                return results.distanceAt(i);
            default:
                return NONE;
        }
    }

    public int closest(int what) {
        if (what < 0 || what > 2 || members.size() < 2 || !openBook()) {
            return NONE;
        }
        return partOfPair(closestKey(), what);
    }

    public int centres(int k) {
        if (!isHowMany(k) || members.size() == 0 || !openBook()) {
            return NONE;
        }
        return spread.take(Math.min(k, members.size()), results);
    }

    public int best(int k) {
        if (k < 1 || k > MOST_BEST || members.size() < k || !openBook()) {
            return NONE;
        }
        return search.take(k, results);
    }

    public long chain(int what) {
        if (what < 0 || what > 1 || !openBook()) {
            return NONE;
        }
        Keys taken = links.hangTogether();
        return what == 0 ? taken.size() : sumOfPairs(taken);
    }

    public int pair(int i, int what) {
        if (what < 0 || what > 2 || !openBook()) {
            return NONE;
        }
        Keys taken = links.hangTogether();
        if (i < 0 || i >= taken.size()) {
            return NONE;
        }
        return partOfPair(taken.at(i), what);
    }

    public int clusters(int r) {
        if (r < 0 || !openBook()) {
            return NONE;
        }
        pieces.gather(r);
        return pieces.howMany();
    }

    public int cluster(int t, int r) {
        if (!members.holds(t) || r < 0 || !openBook()) {
            return NONE;
        }
        pieces.gather(r);
        return pieces.lowestWith(t);
    }

    public int net(int r) {
        if (r < 0 || !openBook()) {
            return NONE;
        }
        results.clear();
        for (int i = 0; i < members.size(); i++) {
            int t = members.at(i);
            if (isBeyondResults(t, r)) {
                results.append(t, 0);
            }
        }
        return results.size();
    }

    public long middle(int what) {
        if (what < 0 || what > 1 || members.size() == 0 || !openBook()) {
            return NONE;
        }
        int middle = members.at(0);
        int least = sumFrom(middle);
        for (int i = 1; i < members.size(); i++) {
            int sum = sumFrom(members.at(i));
            if (sum < least) {
                least = sum;
                middle = members.at(i);
            }
        }
        return what == 0 ? middle : least;
    }

    public int count(int what) {
        switch (what) {
            case 0:
                return rows.size();
            case 1:
                return members.size();
            case 2:
                return distances.kindAtHand();
            case 3:
                return results.size();
            case 4:
                return openBook() ? greatestInBook() : NONE;
            default:
                return lengthAsked(what);
        }
    }

    // The book is searched only if the law holds; its distances are measured ahead,
    // so that the searches, deep as their calls go, need only read them.
    private boolean openBook() {
        if (!distances.lawHolds()) {
            return false;
        }
        for (int i = 0; i < members.size(); i++) {
            for (int j = 0; j <= i; j++) {
                distances.between(members.at(i), members.at(j));
            }
        }
        return true;
    }

    private int lengthAsked(int what) {
        // Before 10 is taken away: the least ints would wrap around to great ones.
        if (what < 10 || !rows.holds(what - 10)) {
            return NONE;
        }
        return rows.lengthOf(what - 10);
    }

    private int greatestInBook() {
        int greatest = 0;
        for (int i = 1; i < members.size(); i++) {
            for (int j = 0; j < i; j++) {
                greatest = Math.max(greatest, distances.at(members.at(i), members.at(j)));
            }
        }
        return greatest;
    }

    private int closestKey() {
        int least = Integer.MAX_VALUE;
        for (int i = 0; i < members.size(); i++) {
            for (int j = i + 1; j < members.size(); j++) {
                least = Math.min(least, distances.pairKey(members.at(i), members.at(j)));
            }
        }
        return least;
    }

    private int sumFrom(int t) {
        int sum = 0;
        for (int i = 0; i < members.size(); i++) {
            sum += distances.at(t, members.at(i));
        }
        return sum;
    }

    private boolean isBeyondResults(int t, int r) {
        for (int i = 0; i < results.size(); i++) {
            if (distances.at(t, results.thingAt(i)) <= r) {
                return false;
            }
        }
        return true;
    }

    // A ranking key is a distance and a thing's number in one int, so that like
    // distances fall into the order of numbers by themselves.
    private void rankNearFirst(int q, int r) {
        ranked.clear();
        for (int i = 0; i < members.size(); i++) {
            int t = members.at(i);
            int d = distances.between(q, t);
            if (d <= r) {
                ranked.insert(d * MOST_THINGS + t);
            }
        }
    }

    private void rankFarFirst(int q) {
        ranked.clear();
        for (int i = 0; i < members.size(); i++) {
            int t = members.at(i);
            int lack = GREATEST_DISTANCE - distances.between(q, t);
            ranked.insert(lack * MOST_THINGS + t);
        }
    }

    private int takeRanked(int q, int n) {
        int taken = Math.min(n, ranked.size());
        results.clear();
        for (int i = 0; i < taken; i++) {
            int t = ranked.at(i) % MOST_THINGS;
            results.append(t, distances.between(q, t));
        }
        return taken;
    }

    private static boolean isHowMany(int n) {
        return n >= 1 && n <= MOST_THINGS;
    }

    private static long sumOfPairs(Keys taken) {
        long sum = 0;
        for (int i = 0; i < taken.size(); i++) {
            sum += partOfPair(taken.at(i), 2);
        }
        return sum;
    }

    private static int partOfPair(int key, int what) {
        switch (what) {
            case 0:
                return key / MOST_THINGS % MOST_THINGS;
            case 1:
                return key % MOST_THINGS;
            default:
                return key / (MOST_THINGS * MOST_THINGS);
        }
    }

    /** The things: their values, and what the values alone say of how far two are apart. */
    private static final class Rows {
        private final int[] lengths = new int[MOST_THINGS];
        // Eight places a thing; those behind a row's end are never written, so they stay 0.
        private final int[] places = new int[MOST_THINGS * MOST_VALUES];
        private final int[] line = new int[MOST_VALUES + 1];
        private int size = 0;

        int size() {
            return size;
        }

        boolean holds(int t) {
            return t >= 0 && t < size;
        }

        int lengthOf(int t) {
            return lengths[t];
        }

        int append(int n) {
            lengths[size] = n;
            size++;
            return size - 1;
        }

        void change(int t, int i, int v) {
            places[t * MOST_VALUES + i] = v;
        }

        int unlikePlaces(int a, int b) {
            int unlike = 0;
            for (int i = 0; i < MOST_VALUES; i++) {
                if (difference(a, b, i) != 0) {
                    unlike++;
                }
            }
            return unlike;
        }

        int sumOfDifferences(int a, int b) {
            int sum = 0;
            for (int i = 0; i < MOST_VALUES; i++) {
                sum += difference(a, b, i);
            }
            return sum;
        }

        int greatestDifference(int a, int b) {
            int greatest = 0;
            for (int i = 0; i < MOST_VALUES; i++) {
                greatest = Math.max(greatest, difference(a, b, i));
            }
            return greatest;
        }

        int fewestEdits(int a, int b) {
            int width = lengths[b];
            for (int j = 0; j <= width; j++) {
                line[j] = j;
            }
            // One line does for the whole table: it holds the edits between a's first
            // values and b's first j, and corner what line[j] held a value before.
            for (int i = 0; i < lengths[a]; i++) {
                int v = places[a * MOST_VALUES + i];
                int corner = line[0];
                line[0] = i + 1;
                for (int j = 0; j < width; j++) {
                    int changed = places[b * MOST_VALUES + j] == v ? corner : corner + 1;
                    corner = line[j + 1];
                    line[j + 1] = Math.min(changed, 1 + Math.min(line[j], line[j + 1]));
                }
            }
            return line[width];
        }

        int valuesMissing(int from, int in) {
            int missing = 0;
            for (int i = 0; i < lengths[from]; i++) {
                int v = places[from * MOST_VALUES + i];
                if (!hasBefore(from, i, v) && !hasBefore(in, lengths[in], v)) {
                    missing++;
                }
            }
            return missing;
        }

        private boolean hasBefore(int t, int end, int v) {
            for (int i = 0; i < end; i++) {
                if (places[t * MOST_VALUES + i] == v) {
                    return true;
                }
            }
            return false;
        }

        private int difference(int a, int b, int i) {
            return Math.abs(places[a * MOST_VALUES + i] - places[b * MOST_VALUES + i]);
        }
    }

    /** The told distances, and whether the law holds of them. */
    private static final class Table {
        private final int[] told = new int[MOST_THINGS * MOST_THINGS];
        private final int[] breakers = new int[3];
        private boolean broken = false;
        // The law is looked for among all threes only when the table or the number of
        // things has changed: most calls ask for it.
        private int checkedThings = 0;

        int read(int a, int b) {
            return told[a * MOST_THINGS + b];
        }

        void write(int a, int b, int d) {
            told[a * MOST_THINGS + b] = d;
            told[b * MOST_THINGS + a] = d;
            checkedThings = NONE;
        }

        int breaker(int i) {
            return breakers[i];
        }

        boolean lawHolds(int things) {
            if (checkedThings != things) {
                broken = findBreakers(things);
                checkedThings = things;
            }
            return !broken;
        }

        private boolean findBreakers(int things) {
            for (int a = 0; a < things; a++) {
                for (int b = 0; b < things; b++) {
                    int c = endBeyond(a, b, things);
                    if (c != NONE) {
                        breakers[0] = a;
                        breakers[1] = b;
                        breakers[2] = c;
                        return true;
                    }
                }
            }
            return false;
        }

        // c from a + 1 on: a three that is broken with c below a is broken with both
        // changed about too, and that one comes first.
        private int endBeyond(int a, int b, int things) {
            int rowA = a * MOST_THINGS;
            int rowB = b * MOST_THINGS;
            int first = told[rowA + b];
            for (int c = a + 1; c < things; c++) {
                if (told[rowA + c] > first + told[rowB + c]) {
                    return c;
                }
            }
            return NONE;
        }
    }

    /** How far two things are apart by the kind at hand. */
    private static final class Distances {
        private static final int UNKNOWN = -1;

        private final Rows rows;
        private final Table table;
        // Measured once: edits are dear, and the searches ask for the same two often.
        private final int[] known = new int[MOST_THINGS * MOST_THINGS];
        private int kind = UNLIKE;

        Distances(Rows rows, Table table) {
            this.rows = rows;
            this.table = table;
            Arrays.fill(known, UNKNOWN);
        }

        int kindAtHand() {
            return kind;
        }

        void useKind(int k) {
            if (k != kind) {
                kind = k;
                Arrays.fill(known, UNKNOWN);
            }
        }

        void forgetAllOf(int t) {
            for (int u = 0; u < MOST_THINGS; u++) {
                remember(t, u, UNKNOWN);
            }
        }

        void forgetPair(int a, int b) {
            remember(a, b, UNKNOWN);
        }

        boolean lawHolds() {
            return kind != TOLD || table.lawHolds(rows.size());
        }

        int between(int a, int b) {
            int d = known[a * MOST_THINGS + b];
            if (d == UNKNOWN) {
                d = measure(a, b);
                remember(a, b, d);
            }
            return d;
        }

        // Only for two whose distance between() has measured.
        int at(int a, int b) {
            return known[a * MOST_THINGS + b];
        }

        // Distance, lower and higher number in one int (360,003,599 at most): the order
        // of these ints is the order in which pairs are gone through.
        int pairKey(int a, int b) {
            int ends = Math.min(a, b) * MOST_THINGS + Math.max(a, b);
            return at(a, b) * (MOST_THINGS * MOST_THINGS) + ends;
        }

        private void remember(int a, int b, int d) {
            known[a * MOST_THINGS + b] = d;
            known[b * MOST_THINGS + a] = d;
        }

        private int measure(int a, int b) {
            switch (kind) {
                case EDITS:
                    return rows.fewestEdits(a, b);
                case SUMS:
                    return rows.sumOfDifferences(a, b);
                case GREATEST:
                    return rows.greatestDifference(a, b);
                case SETS:
                    return rows.valuesMissing(a, b) + rows.valuesMissing(b, a);
                case TOLD:
                    return table.read(a, b);
                default:
                    return rows.unlikePlaces(a, b);
            }
        }
    }

    /** The book: numbers of things, kept in rising order because every search goes by it. */
    private static final class Members {
        private final int[] numbers = new int[MOST_THINGS];
        private int size = 0;

        int size() {
            return size;
        }

        int at(int i) {
            return numbers[i];
        }

        boolean holds(int t) {
            int spot = spotOf(t);
            return spot < size && numbers[spot] == t;
        }

        void insert(int t) {
            if (size >= MOST_THINGS) {
                return;
            }
            int spot = spotOf(t);
            for (int i = size; i > spot; i--) {
                numbers[i] = numbers[i - 1];
            }
            numbers[spot] = t;
            size++;
        }

        void remove(int t) {
            size--;
            for (int i = spotOf(t); i < size; i++) {
                numbers[i] = numbers[i + 1];
            }
        }

        private int spotOf(int t) {
            int spot = 0;
            while (spot < size && numbers[spot] < t) {
                spot++;
            }
            return spot;
        }
    }

    /** What the latest search found, as it was then. */
    private static final class Results {
        private final int[] things = new int[MOST_THINGS];
        private final int[] apart = new int[MOST_THINGS];
        private int size = 0;

        int size() {
            return size;
        }

        int thingAt(int i) {
            return things[i];
        }

        int distanceAt(int i) {
            return apart[i];
        }

        void clear() {
            size = 0;
        }

        void append(int t, int d) {
            if (size >= MOST_THINGS) {
                return;
            }
            things[size] = t;
            apart[size] = d;
            size++;
        }
    }

    /** Ints in rising order, one for each of the book at most. */
    private static final class Keys {
        private final int[] keys = new int[MOST_THINGS];
        private int size = 0;

        int size() {
            return size;
        }

        int at(int i) {
            return keys[i];
        }

        void clear() {
            size = 0;
        }

        void insert(int key) {
            if (size >= MOST_THINGS) {
                return;
            }
            int spot = size;
            while (spot > 0 && keys[spot - 1] > key) {
                keys[spot] = keys[spot - 1];
                spot--;
            }
            keys[spot] = key;
            size++;
        }
    }

    /**
     * The chain. No two pairs have the same key, so there is only one chain of the least
     * keys: it may be grown from one end, which is far less work than to go through all
     * pairs, and put in the order of its keys, in which the pairs would have been taken.
     */
    private static final class Chain {
        private static final int HUNG = Integer.MAX_VALUE;

        private final Members members;
        private final Distances distances;
        private final Keys taken = new Keys();
        private final int[] nearestLink = new int[MOST_THINGS];

        Chain(Members members, Distances distances) {
            this.members = members;
            this.distances = distances;
        }

        Keys hangTogether() {
            taken.clear();
            Arrays.fill(nearestLink, HUNG - 1);
            int newest = 0;
            for (int step = 1; step < members.size(); step++) {
                nearestLink[newest] = HUNG;
                reachFrom(newest);
                newest = leastLoose();
                taken.insert(nearestLink[newest]);
            }
            return taken;
        }

        private void reachFrom(int newest) {
            for (int i = 0; i < members.size(); i++) {
                if (nearestLink[i] != HUNG) {
                    int key = distances.pairKey(members.at(newest), members.at(i));
                    nearestLink[i] = Math.min(nearestLink[i], key);
                }
            }
        }

        private int leastLoose() {
            int least = 0;
            for (int i = 1; i < members.size(); i++) {
                if (nearestLink[i] < nearestLink[least]) {
                    least = i;
                }
            }
            return least;
        }
    }

    /** The clusters: each of the book bears the lowest number of its piece. */
    private static final class Pieces {
        private final Members members;
        private final Distances distances;
        private final int[] lowest = new int[MOST_THINGS];

        Pieces(Members members, Distances distances) {
            this.members = members;
            this.distances = distances;
        }

        void gather(int r) {
            for (int i = 0; i < members.size(); i++) {
                lowest[members.at(i)] = members.at(i);
            }
            for (int i = 1; i < members.size(); i++) {
                for (int j = 0; j < i; j++) {
                    if (distances.at(members.at(i), members.at(j)) <= r) {
                        join(lowest[members.at(i)], lowest[members.at(j)]);
                    }
                }
            }
        }

        int howMany() {
            int many = 0;
            for (int i = 0; i < members.size(); i++) {
                if (lowest[members.at(i)] == members.at(i)) {
                    many++;
                }
            }
            return many;
        }

        int lowestWith(int t) {
            return lowest[t];
        }

        private void join(int one, int other) {
            if (one == other) {
                return;
            }
            int kept = Math.min(one, other);
            int lost = Math.max(one, other);
            for (int i = 0; i < members.size(); i++) {
                if (lowest[members.at(i)] == lost) {
                    lowest[members.at(i)] = kept;
                }
            }
        }
    }

    /** Centres, farthest first. */
    private static final class Centres {
        private static final int TAKEN = -1;

        private final Members members;
        private final Distances distances;
        // From the nearest centre; a centre is marked apart from a thing 0 away from one.
        private final int[] gaps = new int[MOST_THINGS];

        Centres(Members members, Distances distances) {
            this.members = members;
            this.distances = distances;
        }

        int take(int k, Results results) {
            results.clear();
            Arrays.fill(gaps, GREATEST_DISTANCE);
            int next = 0;
            int gap = 0;
            for (int i = 0; i < k; i++) {
                results.append(members.at(next), gap);
                gaps[next] = TAKEN;
                closeGaps(members.at(next));
                next = farthestLoose();
                gap = Math.max(gaps[next], 0);
            }
            return gap;
        }

        private void closeGaps(int centre) {
            for (int i = 0; i < members.size(); i++) {
                if (gaps[i] != TAKEN) {
                    gaps[i] = Math.min(gaps[i], distances.at(centre, members.at(i)));
                }
            }
        }

        private int farthestLoose() {
            int far = 0;
            for (int i = 1; i < members.size(); i++) {
                if (gaps[i] > gaps[far]) {
                    far = i;
                }
            }
            return far;
        }
    }

    /** The best one, two or three centres: all choices are tried in rising order. */
    private static final class BestCentres {
        private final Members members;
        private final Distances distances;
        // Row n: how far each of the book is from the nearest of the first n picked.
        private final int[] gaps = new int[MOST_BEST * MOST_THINGS];
        private final int[] picked = new int[MOST_BEST];
        private final int[] best = new int[MOST_BEST];
        private int radius = 0;
        // Who was too far from the last choice mostly is from the next: looked at first.
        private int suspect = 0;

        BestCentres(Members members, Distances distances) {
            this.members = members;
            this.distances = distances;
        }

        int take(int k, Results results) {
            Arrays.fill(gaps, GREATEST_DISTANCE);
            radius = GREATEST_DISTANCE + 1;
            suspect = 0;
            if (k == 1) {
                tryLast(0, 0);
            } else if (k == 2) {
                tryTwos();
            } else {
                tryThrees();
            }
            results.clear();
            for (int i = 0; i < k; i++) {
                results.append(best[i], 0);
            }
            return radius;
        }

        private void tryTwos() {
            for (int i = 0; i < members.size(); i++) {
                pick(0, i);
                tryLast(1, i + 1);
            }
        }

        private void tryThrees() {
            for (int i = 0; i < members.size(); i++) {
                pick(0, i);
                for (int j = i + 1; j < members.size(); j++) {
                    pick(1, j);
                    tryLast(2, j + 1);
                }
            }
        }

        private void tryLast(int before, int from) {
            for (int i = from; i < members.size(); i++) {
                picked[before] = members.at(i);
                int reach = reachOf(before);
                if (reach < radius) {
                    radius = reach;
                    System.arraycopy(picked, 0, best, 0, MOST_BEST);
                }
            }
        }

        private void pick(int before, int i) {
            picked[before] = members.at(i);
            int row = (before + 1) * MOST_THINGS;
            for (int j = 0; j < members.size(); j++) {
                gaps[row + j] = gapWith(before, j);
            }
        }

        // Exact only below the least radius so far: what is not less is of no use.
        private int reachOf(int before) {
            int reach = gapWith(before, suspect);
            for (int j = 0; j < members.size() && reach < radius; j++) {
                int gap = gapWith(before, j);
                if (gap > reach) {
                    reach = gap;
                    suspect = j;
                }
            }
            return reach;
        }

        private int gapWith(int before, int j) {
            int gap = gaps[before * MOST_THINGS + j];
            int apart = distances.at(picked[before], members.at(j));
            return apart < gap ? apart : gap;
        }
    }
}
