import java.util.function.ToLongFunction;

/**
 * The document in its own order: each of its sentences that names a boundary case (too
 * small, too large, empty, full, just as far, a refused call) has a test of its own here.
 */
public final class SentencesTest {
    private static final int LEAST = Integer.MIN_VALUE;
    private static final int MOST = Integer.MAX_VALUE;
    private static final int NONE = -1;
    private static final int[] BELOW_0 = {-1, -2, -60, LEAST + 1, LEAST};
    private static final int[] NO_ROW = {};
    private static final int[] ZEROS = {0, 0, 0, 0, 0, 0, 0, 0};
    private static final int[] UP = {1000, 1000, 1000, 1000, 1000, 1000, 1000, 1000};
    private static final int[] DOWN = {-1000, -1000, -1000, -1000, -1000, -1000, -1000, -1000};

    private static String sentence = "";
    private static int sentences = 0;
    private static int answers = 0;
    private static int wrong = 0;

    public static void main(String[] args) {
        lastCall();
        thingsAtMost();
        valuesOfARow();
        leastAndGreatestValue();
        unlikeBehindTheEnd();
        editsOfRows();
        sumsOfDifferences();
        greatestDifference();
        setsOfValues();
        toldAtFirst();
        lawJustTogether();
        lawOfOtherKinds();
        kindAtFirst();
        bookIsASet();
        askedOfOneInOrOut();
        nearestInOrder();
        withinNotAbove();
        farthestInOrder();
        closestOfLikeOnes();
        firstCentre();
        nextCentres();
        bestOfLikeOnes();
        radiusOfCentres();
        chainInOrder();
        clustersNotAbove();
        netAbove();
        middleOfLikeOnes();
        memoryIsItsOwn();
        refusedCalls();
        refusedWithoutTheLaw();
        newObject();
        thingIsAllZero();
        thingRefused();
        valueTakenAndRefused();
        tellBothWays();
        tellRefused();
        kindTakenAndRefused();
        distanceRefused();
        lawOfAllThings();
        threeLeast();
        threeRefused();
        putRefused();
        dropTakenAndRefused();
        hasOrNone();
        nearestAtMost();
        nearestRefused();
        withinLikewise();
        farthestLikewise();
        resultOfTheLatest();
        resultParts();
        resultRefused();
        closestRefused();
        centresAtMost();
        centresRefused();
        bestInRisingOrder();
        bestRefused();
        chainTakenAndRefused();
        pairInOrder();
        pairRefused();
        clustersTakenAndRefused();
        clusterTakenAndRefused();
        netTakenAndRefused();
        middleParts();
        middleRefused();
        countOfAll();
        countGreatestDistance();
        countOfValues();
        countOfOthers();
        System.out.println("SentencesTest: " + sentences + " sentences, " + answers + " answers, "
            + wrong + " not as due");
        if (wrong != 0) {
            System.exit(1);
        }
    }

    private static void says(String words) {
        sentence = words;
        sentences++;
    }

    private static void due(String call, long got, long want) {
        answers++;
        if (got != want) {
            wrong++;
            System.out.println("'" + sentence + "': " + call + " answered " + got + ", due is " + want);
        }
    }

    private static void due(String call, boolean got, boolean want) {
        due(call, got ? 1 : 0, want ? 1 : 0);
    }

    private static void dueResults(String call, NearBook x, int... thingsAndDistances) {
        int size = thingsAndDistances.length / 2;
        due(call + ", count(3)", x.count(3), size);
        for (int i = 0; i < size; i++) {
            due(call + ", result(" + i + ", 0)", x.result(i, 0), thingsAndDistances[2 * i]);
            due(call + ", result(" + i + ", 1)", x.result(i, 1), thingsAndDistances[2 * i + 1]);
        }
        due(call + ", result(" + size + ", 0)", x.result(size, 0), NONE);
        due(call + ", result(" + size + ", 1)", x.result(size, 1), NONE);
    }

    private static void dueThree(String call, NearBook x, int a, int b, int c) {
        due(call + ", law()", x.law(), 0);
        due(call + ", three(0)", x.three(0), a);
        due(call + ", three(1)", x.three(1), b);
        due(call + ", three(2)", x.three(2), c);
    }

    private static void duePairs(String call, NearBook x, int... parts) {
        int size = parts.length / 3;
        long sum = 0;
        for (int i = 0; i < size; i++) {
            for (int what = 0; what < 3; what++) {
                due(call + ", pair(" + i + ", " + what + ")", x.pair(i, what), parts[3 * i + what]);
            }
            sum += parts[3 * i + 2];
        }
        due(call + ", chain(0)", x.chain(0), size);
        due(call + ", chain(1)", x.chain(1), sum);
        for (int what = 0; what < 3; what++) {
            due(call + ", pair(" + size + ", " + what + ")", x.pair(size, what), NONE);
        }
    }

    private static int row(NearBook x, int... values) {
        int t = x.thing(values.length);
        for (int i = 0; i < values.length; i++) {
            x.value(t, i, values[i]);
        }
        return t;
    }

    /** Two rows alone, and how far they are apart by a kind: both ways, each way first. */
    private static void dueApart(String call, int kind, int[] one, int[] other, int want) {
        dueApartFirst(call, kind, one, other, want);
        dueApartFirst(call, kind, other, one, want);
    }

    private static void dueApartFirst(String call, int kind, int[] one, int[] other, int want) {
        NearBook x = new NearBook();
        x.kind(kind);
        row(x, one);
        row(x, other);
        due(call, x.distance(0, 1), want);
        due(call + ", the other way", x.distance(1, 0), want);
        due(call + ", of itself", x.distance(0, 0), 0);
        due(call + ", of itself", x.distance(1, 1), 0);
    }

    private static int[] values(int... values) {
        return values;
    }

    /** Things on a line, all in the book, by SUMS. */
    private static NearBook line(int... places) {
        NearBook x = new NearBook();
        x.kind(2);
        for (int place : places) {
            x.put(row(x, place));
        }
        return x;
    }

    /** Things with a told table, all in the book: 0 from 1, 2, ..; 1 from 2, 3, ..; and so on. */
    private static NearBook told(int things, int... distances) {
        NearBook x = new NearBook();
        x.kind(5);
        for (int t = 0; t < things; t++) {
            x.put(x.thing(0));
        }
        int next = 0;
        for (int a = 0; a < things; a++) {
            for (int b = a + 1; b < things; b++) {
                x.tell(a, b, distances[next++]);
            }
        }
        return x;
    }

    /** As many things as there may be, at 0, 1, .. 59 of a line, all in the book, by SUMS. */
    private static NearBook sixty() {
        int[] places = new int[60];
        for (int t = 0; t < 60; t++) {
            places[t] = t;
        }
        return line(places);
    }

    private static void lastCall() {
        says("An object is used for at most 512 calls after it has been made");
        NearBook x = sixty();
        for (int call = 182; call <= 511; call++) {
            due("call " + call + ", nearest", x.nearest(call % 60, 60), 60);
        }
        due("call 512, result(59, 1)", x.result(59, 1), 511 % 60);
    }

    private static void thingsAtMost() {
        says("THINGS are numbered from 0 on, 60 at most");
        NearBook x = new NearBook();
        for (int t = 0; t < 60; t++) {
            due("thing(1)", x.thing(1), t);
        }
        due("the 61st", x.thing(1), NONE);
        due("value of the 60th", x.value(59, 0, 1), true);
        due("value of the 61st", x.value(60, 0, 1), false);
        due("distance of the 60th", x.distance(59, 0), 1);
        due("distance of the 61st", x.distance(60, 0), NONE);
    }

    private static void valuesOfARow() {
        says("each is a row of 0 to 8 VALUES");
        NearBook x = new NearBook();
        for (int n = 0; n <= 8; n++) {
            due("thing(" + n + ")", x.thing(n), n);
            due("count", x.count(10 + n), n);
            for (int i = 0; i < n; i++) {
                due("value(" + n + ", " + i + ", 5)", x.value(n, i, 5), true);
            }
            due("value(" + n + ", " + n + ", 5)", x.value(n, n, 5), false);
        }
    }

    private static void leastAndGreatestValue() {
        says("ints from -1000 to 1000");
        NearBook x = new NearBook();
        x.thing(8);
        x.thing(0);
        x.kind(3);
        due("value 1000", x.value(0, 7, 1000), true);
        due("1000", x.distance(0, 1), 1000);
        due("value 1001", x.value(0, 0, 1001), false);
        due("value -1001", x.value(0, 0, -1001), false);
        due("1000 as before", x.distance(0, 1), 1000);
        due("value 0", x.value(0, 7, 0), true);
        due("value -1000", x.value(0, 0, -1000), true);
        due("-1000", x.distance(0, 1), 1000);
    }

    private static void unlikeBehindTheEnd() {
        says("how many of eight places differ (a place behind the row's end has 0)");
        dueApart("no rows", 0, NO_ROW, NO_ROW, 0);
        dueApart("no row and eight 0", 0, NO_ROW, ZEROS, 0);
        dueApart("no row and eight others", 0, NO_ROW, UP, 8);
        dueApart("all differ", 0, UP, DOWN, 8);
        dueApart("the first", 0, values(1), NO_ROW, 1);
        dueApart("the last", 0, values(0, 0, 0, 0, 0, 0, 0, 1), NO_ROW, 1);
        dueApart("0 behind the end, and another", 0, values(4, 5), values(4, 5, 0, 6), 1);
        dueApart("pushed by one", 0, values(1, 2, 3), values(9, 1, 2, 3), 4);
    }

    private static void editsOfRows() {
        says("the fewest VALUES put in, taken out or changed that make one row the other");
        dueApart("no rows", 1, NO_ROW, NO_ROW, 0);
        dueApart("eight put in", 1, NO_ROW, ZEROS, 8);
        dueApart("0 behind the end is none", 1, values(1), values(1, 0), 1);
        dueApart("all changed", 1, UP, DOWN, 8);
        dueApart("put in first", 1, values(1, 2, 3), values(9, 1, 2, 3), 1);
        dueApart("put in amid", 1, values(1, 2, 3), values(1, 2, 9, 3), 1);
        dueApart("put in last", 1, values(1, 2, 3), values(1, 2, 3, 9), 1);
        dueApart("changed first", 1, values(1, 2, 3), values(9, 2, 3), 1);
        dueApart("changed last", 1, values(1, 2, 3), values(1, 2, 9), 1);
        dueApart("changed and put in", 1, values(1, 2, 3), values(1, 9, 3, 4), 2);
        dueApart("one out first, one in last, of eight", 1,
            values(1, 2, 3, 4, 5, 6, 7, 8), values(2, 3, 4, 5, 6, 7, 8, 9), 2);
        dueApart("turned about", 1, values(1, 2, 3, 4), values(4, 3, 2, 1), 4);
        dueApart("two for one", 1, values(7, 7), values(7), 1);
        dueApart("out amid and in amid", 1, values(1, 2, 3, 4, 5, 6), values(1, 3, 4, 9, 5, 6), 2);
        dueApart("eight of one kept", 1, values(1, 2, 3, 4, 5, 6, 7, 8), values(8), 7);
    }

    private static void sumsOfDifferences() {
        says("the sum, over eight places, of how much they differ");
        dueApart("no rows", 2, NO_ROW, NO_ROW, 0);
        dueApart("no row and eight 0", 2, NO_ROW, ZEROS, 0);
        dueApart("the greatest there is", 2, UP, DOWN, 16000);
        dueApart("behind the end", 2, UP, NO_ROW, 8000);
        dueApart("above and below", 2, values(3, -4), values(-1, 5, -6), 19);
    }

    private static void greatestDifference() {
        says("the greatest of these");
        dueApart("no rows", 3, NO_ROW, NO_ROW, 0);
        dueApart("no row and eight 0", 3, NO_ROW, ZEROS, 0);
        dueApart("the greatest there is", 3, UP, DOWN, 2000);
        dueApart("the first", 3, values(9, 1, 1), values(1, 2, 3), 8);
        dueApart("amid", 3, values(1, 9, 1), values(1, -2, 3), 11);
        dueApart("the last of eight", 3, values(1, 0, 0, 0, 0, 0, 0, -5), NO_ROW, 5);
        dueApart("behind the end", 3, values(1, 1), values(1, 1, 7), 7);
    }

    private static void setsOfValues() {
        says("how many VALUES are in one row and not in the other (each counts once)");
        dueApart("no rows", 4, NO_ROW, NO_ROW, 0);
        dueApart("eight 0 are one", 4, NO_ROW, ZEROS, 1);
        dueApart("0 behind the end is none", 4, values(1), values(1, 0), 1);
        dueApart("none alike", 4, values(1, 2, 3, 4, 5, 6, 7, 8), values(11, 12, 13, 14, 15, 16, 17, 18), 16);
        dueApart("in another order", 4, values(1, 2, 3), values(3, 1, 2), 0);
        dueApart("more often", 4, values(1, 1, 1, 2), values(2, 2, 1), 0);
        dueApart("more often, in one alone", 4, values(1, 3, 1, 3), values(2, 1, 2), 2);
        dueApart("the last of eight", 4, values(1, 1, 1, 1, 1, 1, 1, 2), values(1), 1);
    }

    private static void toldAtFirst() {
        says("as a table tells (0 to 100000; 0 at first, and of a THING to itself)");
        dueApart("at first", 5, UP, DOWN, 0);
        NearBook x = told(2, 100000);
        due("100000", x.distance(0, 1), 100000);
        due("100000, the other way", x.distance(1, 0), 100000);
        due("of itself", x.distance(0, 0), 0);
        due("of itself", x.distance(1, 1), 0);
        x.tell(0, 1, 0);
        due("0", x.distance(0, 1), 0);
        x.thing(0);
        due("at first, of a later one", x.distance(2, 0), 0);
    }

    private static void lawJustTogether() {
        says("of any three THINGS, no DISTANCE of two is greater than those of both to the third together");
        NearBook x = told(3, 3, 7, 4);
        due("0 from 2 is just both together", x.law(), 1);
        x.tell(0, 2, 8);
        due("0 from 2 is one more", x.law(), 0);
        x = told(3, 3, 4, 7);
        due("1 from 2 is just both together", x.law(), 1);
        x.tell(1, 2, 8);
        due("1 from 2 is one more", x.law(), 0);
        x = told(3, 7, 3, 4);
        due("0 from 1 is just both together", x.law(), 1);
        x.tell(1, 0, 8);
        due("0 from 1 is one more", x.law(), 0);
        x = told(3, 100000, 50000, 50000);
        due("the greatest, just both together", x.law(), 1);
        x.tell(1, 2, 49999);
        due("the greatest, one less together", x.law(), 0);
        x = told(3, 100000, 100000, 100000);
        due("all the greatest", x.law(), 1);
        x = told(3, 0, 0, 1);
        due("1 is greater than 0 and 0", x.law(), 0);
        x = told(2, 100000);
        due("two alone", x.law(), 1);
        lawOfTheLast();
    }

    private static void lawOfOtherKinds() {
        says("(Of KINDS 0 to 4 it does.)");
        NearBook x = told(3, 1, 1, 100);
        for (int k = 0; k <= 4; k++) {
            x.kind(k);
            due("law() by " + k, x.law(), 1);
            due("three(0) by " + k, x.three(0), NONE);
            due("chain(0) by " + k, x.chain(0), 2);
        }
        x.kind(5);
        due("law() by 5", x.law(), 0);
    }

    private static void kindAtFirst() {
        says("THE KIND at hand is 0 at first.");
        NearBook x = new NearBook();
        due("count(2)", x.count(2), 0);
        row(x, 5, 5);
        row(x, 5, 9, 0);
        due("distance", x.distance(0, 1), 1);
    }

    private static void bookIsASet() {
        says("THE BOOK is a set of THINGS.");
        NearBook x = line(4, 9);
        due("put(1) again", x.put(1), false);
        due("count(1)", x.count(1), 2);
        due("nearest(1, 60)", x.nearest(1, 60), 2);
        due("chain(0)", x.chain(0), 1);
    }

    /** The law is broken by the last three of sixty alone, none of them in the book. */
    private static void lawOfTheLast() {
        NearBook x = new NearBook();
        x.kind(5);
        for (int t = 0; t < 60; t++) {
            x.thing(0);
        }
        x.put(0);
        due("sixty", x.law(), 1);
        for (int t = 0; t < 57; t++) {
            x.tell(t, 57, 50);
            x.tell(t, 58, 50);
            x.tell(t, 59, 50);
        }
        x.tell(57, 58, 40);
        x.tell(58, 59, 40);
        x.tell(57, 59, 80);
        due("sixty, just both together", x.law(), 1);
        x.tell(57, 59, 81);
        dueThree("sixty, the last three", x, 57, 58, 59);
        due("a book of another thing", x.nearest(0, 1), NONE);
    }

    private static void askedOfOneInOrOut() {
        says("to a THING q (it may be in THE BOOK or not)");
        NearBook x = line(10, 20, 30);
        x.drop(1);
        due("nearest(1, 1) of one out of it", x.nearest(1, 1), 1);
        dueResults("nearest(1, 1) of one out of it", x, 0, 10);
        due("within(1, 0) of one out of it", x.within(1, 0), 0);
        dueResults("within(1, 0) of one out of it", x);
        due("farthest(1, 60) of one out of it", x.farthest(1, 60), 2);
        dueResults("farthest(1, 60) of one out of it", x, 0, 10, 2, 10);
        due("nearest(0, 1) of one in it", x.nearest(0, 1), 1);
        dueResults("nearest(0, 1) of one in it", x, 0, 0);
        due("within(0, 0) of one in it", x.within(0, 0), 1);
        dueResults("within(0, 0) of one in it", x, 0, 0);
        due("farthest(0, 60) of one in it", x.farthest(0, 60), 2);
        dueResults("farthest(0, 60) of one in it", x, 2, 20, 0, 0);
    }

    private static void nearestInOrder() {
        says("those of the least DISTANCES from q, of like ones the lower numbers; in this order");
        NearBook x = line(5, 9, 1, 5, 6, 4, 5);
        due("nearest(3, 3)", x.nearest(3, 3), 3);
        dueResults("nearest(3, 3)", x, 0, 0, 3, 0, 6, 0);
        due("nearest(3, 4)", x.nearest(3, 4), 4);
        dueResults("nearest(3, 4)", x, 0, 0, 3, 0, 6, 0, 4, 1);
        due("nearest(3, 6)", x.nearest(3, 6), 6);
        dueResults("nearest(3, 6)", x, 0, 0, 3, 0, 6, 0, 4, 1, 5, 1, 1, 4);
    }

    private static void withinNotAbove() {
        says("all whose DISTANCE from q is not above r, in this order");
        NearBook x = line(5, 9, 1, 5, 6, 4, 5);
        due("within(3, 0)", x.within(3, 0), 3);
        dueResults("within(3, 0)", x, 0, 0, 3, 0, 6, 0);
        due("within(3, 3)", x.within(3, 3), 5);
        dueResults("within(3, 3)", x, 0, 0, 3, 0, 6, 0, 4, 1, 5, 1);
        due("within(3, 4)", x.within(3, 4), 7);
        dueResults("within(3, 4)", x, 0, 0, 3, 0, 6, 0, 4, 1, 5, 1, 1, 4, 2, 4);
    }

    private static void farthestInOrder() {
        says("those of the greatest DISTANCES, of like ones the lower numbers; in this order");
        NearBook x = line(5, 9, 1, 5, 6, 4, 5);
        due("farthest(3, 1)", x.farthest(3, 1), 1);
        dueResults("farthest(3, 1)", x, 1, 4);
        due("farthest(3, 3)", x.farthest(3, 3), 3);
        dueResults("farthest(3, 3)", x, 1, 4, 2, 4, 4, 1);
        due("farthest(3, 7)", x.farthest(3, 7), 7);
        dueResults("farthest(3, 7)", x, 1, 4, 2, 4, 4, 1, 5, 1, 0, 0, 3, 0, 6, 0);
    }

    private static void closestOfLikeOnes() {
        says("of the least DISTANCE from one another, of like ones the lower first one, then the lower second one");
        dueClosest("one nearest two", line(0, 9, 30, 8), 1, 3, 1);
        dueClosest("like ones, the lower first", line(0, 40, 20, 42, 22, 2), 0, 5, 2);
        dueClosest("like ones, the lower second", line(10, 30, 8, 12, 31), 1, 4, 1);
        dueClosest("like ones, the lower second", line(10, 30, 8, 12, 33), 0, 2, 2);
        dueClosest("like ones, first before second", told(4, 9, 9, 5, 5, 9, 9), 0, 3, 5);
        dueClosest("all alike", line(7, 7, 7), 0, 1, 0);
        dueClosest("the greatest", told(2, 100000), 0, 1, 100000);
        NearBook x = line(7, 7, 7);
        x.drop(0);
        dueClosest("those out of it do not count", x, 1, 2, 0);
    }

    private static void dueClosest(String call, NearBook x, int lower, int higher, int apart) {
        due(call + ", closest(0)", x.closest(0), lower);
        due(call + ", closest(1)", x.closest(1), higher);
        due(call + ", closest(2)", x.closest(2), apart);
    }

    private static void firstCentre() {
        says("the lowest number");
        NearBook x = line(5, 0, 10);
        due("centres(1)", x.centres(1), 5);
        dueResults("centres(1)", x, 0, 0);
        x.drop(0);
        due("centres(1) without it", x.centres(1), 10);
        dueResults("centres(1) without it", x, 1, 0);
    }

    private static void nextCentres() {
        says("of those that are no CENTRES, the one that is farthest from the nearest of those before, of like ones the lowest");
        NearBook x = line(50, 100, 0, 74, 26);
        due("centres(2), like ones", x.centres(2), 50);
        dueResults("centres(2), like ones", x, 0, 0, 1, 50);
        due("centres(3)", x.centres(3), 24);
        dueResults("centres(3)", x, 0, 0, 1, 50, 2, 50);
        due("centres(4), like ones", x.centres(4), 24);
        dueResults("centres(4), like ones", x, 0, 0, 1, 50, 2, 50, 3, 24);
        due("centres(5)", x.centres(5), 0);
        dueResults("centres(5)", x, 0, 0, 1, 50, 2, 50, 3, 24, 4, 24);
        x = line(3, 3, 8, 3);
        due("none twice: centres(4)", x.centres(4), 0);
        dueResults("none twice: centres(4)", x, 0, 0, 2, 5, 1, 0, 3, 0);
        due("none twice: centres(3)", x.centres(3), 0);
        dueResults("none twice: centres(3)", x, 0, 0, 2, 5, 1, 0);
    }

    private static void bestOfLikeOnes() {
        says("those k that have the least RADIUS, of like ones the least, number by number in rising order");
        NearBook x = line(0, 4, 2, 6);
        due("best(1), like ones", x.best(1), 4);
        dueResults("best(1), like ones", x, 1, 0);
        due("best(2), like ones", x.best(2), 2);
        dueResults("best(2), like ones", x, 0, 0, 1, 0);
        due("best(3), like ones", x.best(3), 2);
        dueResults("best(3), like ones", x, 0, 0, 1, 0, 2, 0);
        x = line(50, 50, 0, 99, 1, 100);
        due("best(3), the first number counts most", x.best(3), 1);
        dueResults("best(3), the first number counts most", x, 0, 0, 2, 0, 3, 0);
        x = line(8, 1, 9, 0, 5);
        due("best(2), the last are no worse", x.best(2), 3);
        dueResults("best(2), the last are no worse", x, 0, 0, 1, 0);
        x = line(7, 7, 7, 7);
        due("best(2), all alike, none twice", x.best(2), 0);
        dueResults("best(2), all alike, none twice", x, 0, 0, 1, 0);
        due("best(3), all alike, none twice", x.best(3), 0);
        dueResults("best(3), all alike, none twice", x, 0, 0, 1, 0, 2, 0);
        x = line(0, 10, 5, 100, 110, 105);
        due("best(2), two of the last", x.best(2), 5);
        dueResults("best(2), two of the last", x, 2, 0, 5, 0);
    }

    private static void radiusOfCentres() {
        says("the greatest of all DISTANCES of one of THE BOOK from the nearest of them");
        NearBook x = line(0, 10, 21);
        due("best(1)", x.best(1), 11);
        due("best(2)", x.best(2), 10);
        due("best(3)", x.best(3), 0);
        due("centres(1)", x.centres(1), 21);
        due("centres(2)", x.centres(2), 10);
        due("centres(3)", x.centres(3), 0);
        x.drop(2);
        due("best(1), those out of it do not count", x.best(1), 10);
        due("centres(1), those out of it do not count", x.centres(1), 10);
        x = farApart(6);
        x.drop(0);
        for (int k = 1; k <= 3; k++) {
            due("best(" + k + "), the greatest", x.best(k), 100000);
            due("best(" + k + "), the greatest, the first", x.result(0, 0), 1);
            due("best(" + k + "), the greatest, the last", x.result(k - 1, 0), k);
            due("centres(" + k + "), the greatest", x.centres(k), 100000);
            due("centres(" + k + "), the greatest, the last", x.result(k - 1, 0), k);
        }
    }

    private static void chainInOrder() {
        says("pairs are gone through by DISTANCE, then by the lower, then by the higher number, and each is taken that joins two pieces");
        duePairs("by distance", line(0, 9, 4, 7), 1, 3, 2, 2, 3, 3, 0, 2, 4);
        duePairs("like ones", line(6, 6, 6, 6), 0, 1, 0, 0, 2, 0, 0, 3, 0);
        duePairs("like ones, by the lower", line(9, 1, 8, 2), 0, 2, 1, 1, 3, 1, 2, 3, 6);
        duePairs("a ring of like sides", told(4, 2, 4, 2, 2, 4, 2), 0, 1, 2, 0, 3, 2, 1, 2, 2);
        duePairs("like ones, by the higher", told(4, 5, 3, 3, 5, 5, 3), 0, 2, 3, 0, 3, 3, 0, 1, 5);
        duePairs("the greatest", told(3, 100000, 100000, 100000), 0, 1, 100000, 0, 2, 100000);
        NearBook x = line(6, 6, 6, 6);
        x.drop(0);
        duePairs("those out of it do not hang together", x, 1, 2, 0, 1, 3, 0);
    }

    private static void clustersNotAbove() {
        says("pieces that pairs with a DISTANCE not above r hang together");
        NearBook x = line(0, 30, 10, 40, 20);
        due("clusters(9)", x.clusters(9), 5);
        due("clusters(10)", x.clusters(10), 1);
        due("cluster(3, 10), through others", x.cluster(3, 10), 0);
        due("cluster(3, 9)", x.cluster(3, 9), 3);
        x.drop(4);
        due("clusters(10), the one amid is out", x.clusters(10), 2);
        due("cluster(3, 10), the one amid is out", x.cluster(3, 10), 1);
        due("clusters(0) of like ones", line(3, 3, 8, 3).clusters(0), 2);
        due("clusters, the greatest", told(2, 100000).clusters(100000), 1);
        due("clusters, one below the greatest", told(2, 100000).clusters(99999), 2);
        due("cluster of one that joins two pieces late", line(0, 20, 10, 10).cluster(1, 10), 0);
    }

    private static void netAbove() {
        says("THE BOOK is gone through by numbers, and each is taken whose DISTANCE from all that were taken is above r");
        NearBook x = line(0, 5, 10, 16, 11);
        due("net(5), just as far is not above", x.net(5), 3);
        dueResults("net(5)", x, 0, 0, 2, 0, 3, 0);
        due("net(4)", x.net(4), 4);
        dueResults("net(4)", x, 0, 0, 1, 0, 2, 0, 3, 0);
        due("net(10)", x.net(10), 2);
        dueResults("net(10)", x, 0, 0, 3, 0);
        x.drop(0);
        due("net(5) without the lowest", x.net(5), 2);
        dueResults("net(5) without the lowest", x, 1, 0, 3, 0);
        due("net(0) of like ones", line(3, 3, 8, 3).net(0), 2);
        due("net, the greatest", told(2, 100000).net(100000), 1);
        due("net, one below the greatest", told(2, 100000).net(99999), 2);
    }

    private static void middleOfLikeOnes() {
        says("of the least sum of DISTANCES to all, of like ones the lowest");
        dueMiddle("the only least", line(9, 0, 5), 2, 9);
        dueMiddle("like ones", line(9, 4, 6, 0), 1, 11);
        dueMiddle("all alike", line(4, 4), 0, 0);
        dueMiddle("the greatest", told(3, 100000, 100000, 100000), 0, 200000);
        NearBook x = line(4, 4, 4, 9, 9);
        x.drop(0);
        x.drop(1);
        dueMiddle("those out of it do not count", x, 3, 5);
    }

    private static void memoryIsItsOwn() {
        says("All memory is the book's own.");
        NearBook one = line(0, 9);
        one.tell(0, 1, 6);
        one.nearest(0, 2);
        NearBook other = line(3, 4, 8);
        other.tell(0, 1, 1);
        other.net(0);
        other.kind(1);
        due("count(0)", one.count(0), 2);
        due("count(1)", one.count(1), 2);
        due("count(2)", one.count(2), 2);
        due("distance(0, 1)", one.distance(0, 1), 9);
        dueResults("nearest(0, 2)", one, 0, 0, 1, 9);
        one.kind(5);
        due("distance(0, 1), told", one.distance(0, 1), 6);
    }

    private static void dueMiddle(String call, NearBook x, int thing, int sum) {
        due(call + ", middle(0)", x.middle(0), thing);
        due(call + ", middle(1)", x.middle(1), sum);
    }

    /** Four things, three of them in the book, by SUMS; results of farthest(). */
    private static NearBook someBook() {
        NearBook x = new NearBook();
        row(x, 5, -3, 0);
        row(x);
        row(x, 1, 2, 3, 4, 5, 6, 7, 8);
        row(x, 40);
        x.kind(2);
        x.put(3);
        x.put(0);
        x.put(2);
        x.tell(0, 1, 11);
        x.tell(1, 2, 13);
        x.tell(3, 0, 12);
        x.tell(3, 1, 11);
        x.tell(2, 3, 10);
        x.tell(0, 2, 14);
        x.farthest(1, 2);
        return x;
    }

    private static void dueSomeBook(String call, NearBook x) {
        due(call + ", count(0)", x.count(0), 4);
        due(call + ", count(1)", x.count(1), 3);
        due(call + ", count(2)", x.count(2), 2);
        dueResults(call, x, 3, 40, 2, 36);
        int[] lengths = {3, 0, 8, 1, NONE};
        int[] has = {1, 0, 1, 1, NONE};
        for (int t = 0; t <= 4; t++) {
            due(call + ", count(10 + " + t + ")", x.count(10 + t), lengths[t]);
            due(call + ", has(" + t + ")", x.has(t), has[t]);
        }
        dueDistances(call, x, 8, 42, 38, 36, 40, 74);
        x.kind(0);
        dueDistances(call + ", by UNLIKE", x, 2, 8, 2, 8, 1, 8);
        x.kind(5);
        due(call + ", law()", x.law(), 1);
        dueDistances(call + ", as told", x, 11, 14, 12, 13, 11, 10);
        due(call + ", best(3)", x.best(3), 0);
        dueResults(call + ", best(3)", x, 0, 0, 2, 0, 3, 0);
        due(call + ", the next thing", x.thing(0), 4);
        due(call + ", the next thing's told", x.distance(4, 3), 0);
    }

    private static void dueDistances(String call, NearBook x, int... distances) {
        int next = 0;
        for (int a = 0; a < 4; a++) {
            due(call + ", distance(" + a + ", " + a + ")", x.distance(a, a), 0);
            for (int b = a + 1; b < 4; b++) {
                due(call + ", distance(" + a + ", " + b + ")", x.distance(a, b), distances[next]);
                due(call + ", distance(" + b + ", " + a + ")", x.distance(b, a), distances[next]);
                next++;
            }
        }
    }

    private static void refused(String call, ToLongFunction<NearBook> made) {
        NearBook x = someBook();
        due(call, made.applyAsLong(x), NONE);
        dueSomeBook(call, x);
    }

    private static long noneIfFalse(boolean answer) {
        return answer ? 1 : NONE;
    }

    private static void refusedCalls() {
        says("A call that is refused (NONE, false) changes nothing.");
        dueSomeBook("no call", someBook());
        refused("thing(-1)", x -> x.thing(-1));
        refused("thing(9)", x -> x.thing(9));
        refused("value(0, 3, 7)", x -> noneIfFalse(x.value(0, 3, 7)));
        refused("value(0, -1, 7)", x -> noneIfFalse(x.value(0, -1, 7)));
        refused("value(1, 0, 7)", x -> noneIfFalse(x.value(1, 0, 7)));
        refused("value(2, 8, 7)", x -> noneIfFalse(x.value(2, 8, 7)));
        refused("value(3, -1, 7)", x -> noneIfFalse(x.value(3, -1, 7)));
        refused("value(3, 1, 7)", x -> noneIfFalse(x.value(3, 1, 7)));
        refused("value(4, 0, 7)", x -> noneIfFalse(x.value(4, 0, 7)));
        refused("value(-1, 0, 7)", x -> noneIfFalse(x.value(-1, 0, 7)));
        refused("value(0, 0, 1001)", x -> noneIfFalse(x.value(0, 0, 1001)));
        refused("value(0, 0, -1001)", x -> noneIfFalse(x.value(0, 0, -1001)));
        refused("tell(1, 1, 5)", x -> noneIfFalse(x.tell(1, 1, 5)));
        refused("tell(0, 4, 5)", x -> noneIfFalse(x.tell(0, 4, 5)));
        refused("tell(4, 3, 5)", x -> noneIfFalse(x.tell(4, 3, 5)));
        refused("tell(0, -1, 5)", x -> noneIfFalse(x.tell(0, -1, 5)));
        refused("tell(-1, 0, 5)", x -> noneIfFalse(x.tell(-1, 0, 5)));
        refused("tell(0, 1, -1)", x -> noneIfFalse(x.tell(0, 1, -1)));
        refused("tell(0, 1, 100001)", x -> noneIfFalse(x.tell(0, 1, 100001)));
        refused("kind(-1)", x -> noneIfFalse(x.kind(-1)));
        refused("kind(6)", x -> noneIfFalse(x.kind(6)));
        refused("distance(0, 4)", x -> x.distance(0, 4));
        refused("three(0)", x -> x.three(0));
        refused("put(0)", x -> noneIfFalse(x.put(0)));
        refused("put(4)", x -> noneIfFalse(x.put(4)));
        refused("put(-1)", x -> noneIfFalse(x.put(-1)));
        refused("drop(1)", x -> noneIfFalse(x.drop(1)));
        refused("drop(4)", x -> noneIfFalse(x.drop(4)));
        refused("drop(-1)", x -> noneIfFalse(x.drop(-1)));
        refused("has(4)", x -> x.has(4));
        refusedSearches();
    }

    private static void refusedSearches() {
        refused("nearest(4, 1)", x -> x.nearest(4, 1));
        refused("nearest(-1, 1)", x -> x.nearest(-1, 1));
        refused("nearest(0, 0)", x -> x.nearest(0, 0));
        refused("nearest(0, 61)", x -> x.nearest(0, 61));
        refused("within(4, 9)", x -> x.within(4, 9));
        refused("within(-1, 9)", x -> x.within(-1, 9));
        refused("within(0, -1)", x -> x.within(0, -1));
        refused("farthest(4, 1)", x -> x.farthest(4, 1));
        refused("farthest(-1, 1)", x -> x.farthest(-1, 1));
        refused("farthest(0, 0)", x -> x.farthest(0, 0));
        refused("farthest(0, 61)", x -> x.farthest(0, 61));
        refused("result(2, 0)", x -> x.result(2, 0));
        refused("result(0, 2)", x -> x.result(0, 2));
        refused("closest(3)", x -> x.closest(3));
        refused("centres(0)", x -> x.centres(0));
        refused("centres(61)", x -> x.centres(61));
        refused("best(0)", x -> x.best(0));
        refused("best(4)", x -> x.best(4));
        refused("chain(2)", x -> x.chain(2));
        refused("pair(2, 0)", x -> x.pair(2, 0));
        refused("pair(0, 3)", x -> x.pair(0, 3));
        refused("clusters(-1)", x -> x.clusters(-1));
        refused("cluster(1, 9)", x -> x.cluster(1, 9));
        refused("cluster(0, -1)", x -> x.cluster(0, -1));
        refused("net(-1)", x -> x.net(-1));
        refused("middle(2)", x -> x.middle(2));
        refused("count(14)", x -> x.count(14));
    }

    /** In the refused book the law holds, but not while the refused call is made. */
    private static void refusedLawless(String call, ToLongFunction<NearBook> made) {
        NearBook x = someBook();
        x.kind(5);
        x.tell(1, 3, 100);
        due(call, made.applyAsLong(x), NONE);
        x.tell(1, 3, 11);
        x.kind(2);
        dueSomeBook(call, x);
    }

    private static void refusedWithoutTheLaw() {
        says("Asked of THE BOOK by THE KIND, if THE LAW holds of it");
        refusedLawless("nearest(0, 1)", x -> x.nearest(0, 1));
        refusedLawless("within(0, 9)", x -> x.within(0, 9));
        refusedLawless("farthest(0, 1)", x -> x.farthest(0, 1));
        refusedLawless("closest(0)", x -> x.closest(0));
        refusedLawless("closest(1)", x -> x.closest(1));
        refusedLawless("closest(2)", x -> x.closest(2));
        refusedLawless("centres(1)", x -> x.centres(1));
        refusedLawless("centres(60)", x -> x.centres(60));
        refusedLawless("best(1)", x -> x.best(1));
        refusedLawless("best(2)", x -> x.best(2));
        refusedLawless("best(3)", x -> x.best(3));
        refusedLawless("chain(0)", x -> x.chain(0));
        refusedLawless("chain(1)", x -> x.chain(1));
        refusedLawless("pair(0, 0)", x -> x.pair(0, 0));
        refusedLawless("pair(1, 1)", x -> x.pair(1, 1));
        refusedLawless("pair(0, 2)", x -> x.pair(0, 2));
        refusedLawless("clusters(0)", x -> x.clusters(0));
        refusedLawless("cluster(0, 0)", x -> x.cluster(0, 0));
        refusedLawless("net(0)", x -> x.net(0));
        refusedLawless("middle(0)", x -> x.middle(0));
        refusedLawless("middle(1)", x -> x.middle(1));
        refusedLawless("count(4)", x -> x.count(4));
    }

    private static void newObject() {
        says("1: No THINGS, KIND 0, an empty BOOK.");
        NearBook x = new NearBook();
        int[] due = {0, 0, 0, 0, 0, NONE, NONE, NONE, NONE, NONE, NONE};
        for (int what = 0; what <= 10; what++) {
            due("count(" + what + ")", x.count(what), due[what]);
        }
        due("has(0)", x.has(0), NONE);
        due("distance(0, 0)", x.distance(0, 0), NONE);
        due("nearest(0, 1)", x.nearest(0, 1), NONE);
        due("result(0, 0)", x.result(0, 0), NONE);
        due("the first thing", x.thing(0), 0);
        due("is not in it", x.has(0), 0);
    }

    private static void thingIsAllZero() {
        says("2: A THING of n VALUES, all 0: its number");
        NearBook x = new NearBook();
        due("thing(8)", x.thing(8), 0);
        due("thing(8)", x.thing(8), 1);
        x.kind(4);
        x.thing(1);
        due("all 0, by SETS", x.distance(0, 2), 0);
        x.value(0, 0, 9);
        due("the other stays 0", x.distance(1, 2), 0);
    }

    private static void thingRefused() {
        says("2: NONE: n is not 0 to 8, or 60 are there.");
        NearBook x = new NearBook();
        for (int n : BELOW_0) {
            due("thing(" + n + ")", x.thing(n), NONE);
        }
        due("thing(9)", x.thing(9), NONE);
        due("thing(most)", x.thing(MOST), NONE);
        due("count(0)", x.count(0), 0);
        for (int t = 0; t < 59; t++) {
            x.thing(0);
        }
        due("59 are there", x.thing(8), 59);
        for (int n = 0; n <= 8; n++) {
            due("60 are there, thing(" + n + ")", x.thing(n), NONE);
        }
        due("count(0)", x.count(0), 60);
        due("count(69)", x.count(69), 8);
    }

    private static void valueTakenAndRefused() {
        says("3: VALUE i of THING t is v: true; false: there is none such, or v is beyond -1000 to 1000.");
        NearBook x = new NearBook();
        due("no things", x.value(0, 0, 0), false);
        x.thing(3);
        x.thing(0);
        for (int below : BELOW_0) {
            due("value(0, " + below + ", 1)", x.value(0, below, 1), false);
            due("value(" + below + ", 0, 1)", x.value(below, 0, 1), false);
        }
        due("value(0, 2, 1)", x.value(0, 2, 1), true);
        due("value(0, 3, 1)", x.value(0, 3, 1), false);
        due("value(0, most, 1)", x.value(0, MOST, 1), false);
        due("value(1, 0, 1)", x.value(1, 0, 1), false);
        due("value(2, 0, 1)", x.value(2, 0, 1), false);
        due("value(most, 0, 1)", x.value(MOST, 0, 1), false);
        due("value(0, 0, 1000)", x.value(0, 0, 1000), true);
        due("value(0, 1, -1000)", x.value(0, 1, -1000), true);
        due("value(0, 0, 1001)", x.value(0, 0, 1001), false);
        due("value(0, 0, -1001)", x.value(0, 0, -1001), false);
        due("value(0, 0, most)", x.value(0, 0, MOST), false);
        due("value(0, 0, least)", x.value(0, 0, LEAST), false);
        x.kind(2);
        due("2001 apart", x.distance(0, 1), 2001);
        valueAfterDistances();
    }

    /** Each distance is asked before and after a value changes. */
    private static void valueAfterDistances() {
        NearBook x = line(0, 10, 30);
        for (int t = 0; t <= 2; t++) {
            due("before value(), distance(0, " + t + ")", x.distance(0, t), 10 * t + 5 * t * (t - 1));
        }
        due("before value(), distance(1, 2)", x.distance(1, 2), 20);
        due("before value(), count(4)", x.count(4), 30);
        due("value(2, 0, -7)", x.value(2, 0, -7), true);
        due("after value(), distance(0, 2)", x.distance(0, 2), 7);
        due("after value(), distance(2, 1)", x.distance(2, 1), 17);
        due("after value(), distance(0, 1)", x.distance(0, 1), 10);
        due("after value(), count(4)", x.count(4), 17);
        due("value(0, 0, 100)", x.value(0, 0, 100), true);
        due("after value(), distance(0, 0)", x.distance(0, 0), 0);
        due("after value(), distance(1, 0)", x.distance(1, 0), 90);
        due("after value(), chain(1)", x.chain(1), 107);
        x.kind(0);
        due("value(1, 0, 100) by another kind", x.value(1, 0, 100), true);
        due("after value(), by UNLIKE", x.distance(0, 1), 0);
        x.kind(2);
        due("after value(), by SUMS again", x.distance(0, 1), 0);
        due("after value(), by SUMS again", x.distance(1, 2), 107);
    }

    private static void tellBothWays() {
        says("4: TOLD: THINGS a and b (two) are d apart, both ways: true");
        NearBook x = told(3, 6, 7, 8);
        due("tell(2, 0, 9)", x.tell(2, 0, 9), true);
        due("distance(2, 0)", x.distance(2, 0), 9);
        due("distance(0, 2)", x.distance(0, 2), 9);
        due("distance(0, 1)", x.distance(0, 1), 6);
        due("distance(1, 2)", x.distance(1, 2), 8);
        due("tell(0, 2, 100000), the law breaks", x.tell(0, 2, 100000), true);
        due("distance(2, 0)", x.distance(2, 0), 100000);
        x.kind(3);
        due("tell(0, 2, 0), of another kind", x.tell(0, 2, 0), true);
        x.kind(5);
        due("distance(2, 0)", x.distance(2, 0), 0);
    }

    private static void tellRefused() {
        says("4: false: no such ones, or d is not 0 to 100000.");
        NearBook x = new NearBook();
        due("no things", x.tell(0, 1, 1), false);
        x.thing(0);
        due("one thing", x.tell(0, 1, 1), false);
        due("one thing", x.tell(1, 0, 1), false);
        x.thing(0);
        x.kind(5);
        due("tell(0, 1, 42)", x.tell(0, 1, 42), true);
        for (int below : BELOW_0) {
            due("tell(0, 1, " + below + ")", x.tell(0, 1, below), false);
            due("tell(0, " + below + ", 1)", x.tell(0, below, 1), false);
            due("tell(" + below + ", 0, 1)", x.tell(below, 0, 1), false);
        }
        due("tell(0, 1, 100001)", x.tell(0, 1, 100001), false);
        due("tell(0, 1, most)", x.tell(0, 1, MOST), false);
        due("tell(0, 2, 1)", x.tell(0, 2, 1), false);
        due("tell(2, 0, 1)", x.tell(2, 0, 1), false);
        due("tell(most, 0, 1)", x.tell(MOST, 0, 1), false);
        due("tell(0, most, 1)", x.tell(0, MOST, 1), false);
        due("tell(0, 0, 1)", x.tell(0, 0, 1), false);
        due("tell(1, 1, 0)", x.tell(1, 1, 0), false);
        due("tell(2, 2, 1)", x.tell(2, 2, 1), false);
        due("distance(0, 1)", x.distance(0, 1), 42);
        due("distance(0, 0)", x.distance(0, 0), 0);
        due("tell(0, 1, 0)", x.tell(0, 1, 0), true);
        due("tell(0, 1, 100000)", x.tell(0, 1, 100000), true);
    }

    private static void kindTakenAndRefused() {
        says("5: THE KIND at hand: true; false: no such one. (THE BOOK stays.)");
        NearBook x = line(1, 5, 5);
        x.drop(1);
        for (int k = 5; k >= 0; k--) {
            due("kind(" + k + ")", x.kind(k), true);
            due("kind(" + k + ") again", x.kind(k), true);
            due("kind(6)", x.kind(6), false);
            due("kind(most)", x.kind(MOST), false);
            for (int below : BELOW_0) {
                due("kind(" + below + ")", x.kind(below), false);
            }
            due("count(2)", x.count(2), k);
            due("count(1)", x.count(1), 2);
            due("has(0)", x.has(0), 1);
            due("has(1)", x.has(1), 0);
            due("has(2)", x.has(2), 1);
        }
    }

    private static void distanceRefused() {
        says("6: NONE: no such ones.");
        NearBook x = line(0, 7);
        for (int k = 0; k <= 5; k++) {
            x.kind(k);
            for (int below : BELOW_0) {
                due("distance(" + below + ", 0)", x.distance(below, 0), NONE);
                due("distance(0, " + below + ")", x.distance(0, below), NONE);
            }
            due("distance(2, 0)", x.distance(2, 0), NONE);
            due("distance(1, 2)", x.distance(1, 2), NONE);
            due("distance(2, 2)", x.distance(2, 2), NONE);
            due("distance(60, 60)", x.distance(60, 60), NONE);
            due("distance(most, 0)", x.distance(MOST, 0), NONE);
            due("distance(0, most)", x.distance(0, MOST), NONE);
            due("distance(0, 0)", x.distance(0, 0), 0);
        }
        x.kind(2);
        x.drop(0);
        due("distance of one out of the book", x.distance(0, 1), 7);
    }

    private static void lawOfAllThings() {
        says("7: Whether THE LAW holds of THE KIND (for all THINGS): 1, 0.");
        NearBook x = new NearBook();
        x.kind(5);
        due("no things", x.law(), 1);
        x.thing(0);
        due("one thing", x.law(), 1);
        x.thing(0);
        x.tell(0, 1, 1);
        due("two things", x.law(), 1);
        x.thing(0);
        due("a third is 0 from both", x.law(), 0);
        x.tell(0, 2, 1);
        due("one is apart from both", x.law(), 1);
        x.tell(1, 2, 3);
        due("none of them in the book", x.law(), 0);
    }

    private static void threeLeast() {
        says("8: the least a, b, c, number by number, with DISTANCE of a and c greater than a to b and b to c together");
        NearBook x = told(4, 5, 5, 5, 5, 5, 5);
        x.tell(2, 3, 11);
        dueThree("the least a there is, the least b", x, 2, 0, 3);
        x.tell(1, 2, 11);
        dueThree("a lower a", x, 1, 0, 2);
        x.tell(0, 1, 17);
        dueThree("a lower a, with the lower of two b", x, 0, 2, 1);
        x.tell(0, 1, 16);
        dueThree("a lower a, with the higher b", x, 0, 3, 1);
        x = told(4, 1, 5, 3, 4, 1, 1);
        dueThree("b counts before c", x, 0, 1, 3);
        x = told(4, 1, 3, 3, 1, 1, 1);
        dueThree("the least c", x, 0, 1, 2);
        x.tell(0, 2, 2);
        dueThree("another c", x, 0, 1, 3);
    }

    private static void threeRefused() {
        says("8: NONE: it holds, or another i.");
        NearBook x = told(4, 1, 2, 3, 1, 1, 1);
        due("it does not hold, three(0)", x.three(0), 0);
        for (int below : BELOW_0) {
            due("three(" + below + ")", x.three(below), NONE);
        }
        due("three(3)", x.three(3), NONE);
        due("three(most)", x.three(MOST), NONE);
        x.tell(0, 3, 2);
        for (int i = -1; i <= 3; i++) {
            due("it holds, three(" + i + ")", x.three(i), NONE);
        }
    }

    private static void putRefused() {
        says("9: false: there is none such, or it is in it.");
        NearBook x = new NearBook();
        due("no things", x.put(0), false);
        for (int t = 0; t < 60; t++) {
            x.thing(0);
        }
        for (int t = 0; t < 60; t++) {
            due("put(" + t + ")", x.put(t), true);
            due("put(" + t + ") again", x.put(t), false);
        }
        due("put(60)", x.put(60), false);
        due("put(most)", x.put(MOST), false);
        for (int below : BELOW_0) {
            due("put(" + below + ")", x.put(below), false);
        }
        due("count(1)", x.count(1), 60);
    }

    private static void dropTakenAndRefused() {
        says("10: It goes: true; false: it is not in it.");
        NearBook x = sixty();
        for (int t = 59; t >= 0; t--) {
            due("drop(" + t + ")", x.drop(t), true);
            due("drop(" + t + ") again", x.drop(t), false);
        }
        due("count(1)", x.count(1), 0);
        due("an empty book", x.drop(0), false);
        due("put(30)", x.put(30), true);
        due("drop(29)", x.drop(29), false);
        due("drop(31)", x.drop(31), false);
        due("drop(60)", x.drop(60), false);
        due("drop(most)", x.drop(MOST), false);
        for (int below : BELOW_0) {
            due("drop(" + below + ")", x.drop(below), false);
        }
        due("has(30)", x.has(30), 1);
        due("count(0)", x.count(0), 60);
        NearBook fewer = line(3, 4, 5);
        due("drop of the one amid", fewer.drop(1), true);
        due("those about it stay", fewer.has(0) + fewer.has(2), 2);
        due("it may come again", fewer.put(1), true);
        due("as it was", fewer.distance(0, 1), 1);
        for (int gone = 0; gone <= 3; gone++) {
            noneAsksForTheGone(gone);
        }
    }

    private static void hasOrNone() {
        says("11: Whether it is in THE BOOK: 1, 0; NONE: there is none such.");
        NearBook x = sixty();
        x.drop(29);
        x.drop(59);
        due("has(29)", x.has(29), 0);
        due("has(30)", x.has(30), 1);
        due("has(59)", x.has(59), 0);
        due("has(60)", x.has(60), NONE);
        due("has(most)", x.has(MOST), NONE);
        for (int below : BELOW_0) {
            due("has(" + below + ")", x.has(below), NONE);
        }
        due("has(0) of no things", new NearBook().has(0), NONE);
    }

    /** Three of four stay, at 0, 10 and 30; the one that goes was far off, and so was a fifth. */
    private static void noneAsksForTheGone(int gone) {
        int[] stay = new int[3];
        int[] at = {0, 10, 30};
        NearBook x = new NearBook();
        x.kind(2);
        int next = 0;
        for (int t = 0; t <= 3; t++) {
            x.put(t == gone ? row(x, 900) : row(x, at[next]));
            if (t != gone) {
                stay[next++] = t;
            }
        }
        x.put(row(x, 900));
        String call = gone + " has gone";
        due(call + ", best(1) before", x.best(1), 870);
        due(call + ", closest(2) before", x.closest(2), 0);
        due(call + ", drop(4)", x.drop(4), true);
        due(call + ", best(1) before", x.best(1), 870);
        due(call + ", drop", x.drop(gone), true);
        due(call + ", count(1)", x.count(1), 3);
        due(call + ", count(4)", x.count(4), 30);
        dueClosest(call, x, stay[0], stay[1], 10);
        due(call + ", best(1)", x.best(1), 20);
        dueResults(call + ", best(1)", x, stay[1], 0);
        due(call + ", best(2)", x.best(2), 10);
        dueResults(call + ", best(2)", x, stay[0], 0, stay[2], 0);
        due(call + ", best(3)", x.best(3), 0);
        due(call + ", centres(60)", x.centres(60), 0);
        dueResults(call + ", centres(60)", x, stay[0], 0, stay[2], 30, stay[1], 10);
        duePairs(call, x, stay[0], stay[1], 10, stay[1], stay[2], 20);
        due(call + ", clusters(10)", x.clusters(10), 2);
        due(call + ", clusters(899)", x.clusters(899), 1);
        due(call + ", cluster(gone, 899)", x.cluster(gone, 899), NONE);
        due(call + ", net(0)", x.net(0), 3);
        dueResults(call + ", net(0)", x, stay[0], 0, stay[1], 0, stay[2], 0);
        dueMiddle(call, x, stay[1], 30);
        due(call + ", nearest(gone, 60)", x.nearest(gone, 60), 3);
        dueResults(call + ", nearest", x, stay[2], 870, stay[1], 890, stay[0], 900);
        due(call + ", within(gone, 889)", x.within(gone, 889), 1);
        dueResults(call + ", within", x, stay[2], 870);
        due(call + ", farthest(gone, 60)", x.farthest(gone, 60), 3);
        dueResults(call + ", farthest", x, stay[0], 900, stay[1], 890, stay[2], 870);
        x.drop(stay[2]);
        due(call + ", two stay, best(1)", x.best(1), 10);
        x.drop(stay[1]);
        due(call + ", one stays, best(1)", x.best(1), 0);
        dueResults(call + ", one stays, best(1)", x, stay[0], 0);
        due(call + ", one stays, count(4)", x.count(4), 0);
        dueMiddle(call + ", one stays", x, stay[0], 0);
    }

    private static void nearestAtMost() {
        says("12: THE NEAREST n (1 to 60) to THING q are the RESULTS (all, if there are fewer): how many");
        NearBook x = sixty();
        due("nearest(0, 1)", x.nearest(0, 1), 1);
        dueResults("nearest(0, 1)", x, 0, 0);
        due("nearest(0, 59)", x.nearest(0, 59), 59);
        due("result(58, 0)", x.result(58, 0), 58);
        due("result(59, 0)", x.result(59, 0), NONE);
        due("nearest(0, 60)", x.nearest(0, 60), 60);
        due("result(59, 0)", x.result(59, 0), 59);
        due("result(60, 0)", x.result(60, 0), NONE);
        x.drop(59);
        due("nearest(59, 60), there are fewer", x.nearest(59, 60), 59);
        due("result(58, 1)", x.result(58, 1), 59);
        due("result(59, 1)", x.result(59, 1), NONE);
        x = line(4);
        due("nearest(0, 60), there is one", x.nearest(0, 60), 1);
        x.drop(0);
        due("nearest(0, 1), there is none", x.nearest(0, 1), 0);
        dueResults("nearest(0, 1), there is none", x);
    }

    private static void nearestRefused() {
        says("12: NONE: no such THING, n, or THE LAW does not hold (RESULTS stay).");
        NearBook x = told(3, 2, 3, 4);
        x.nearest(1, 2);
        for (int below : BELOW_0) {
            due("nearest(" + below + ", 1)", x.nearest(below, 1), NONE);
            due("nearest(0, " + below + ")", x.nearest(0, below), NONE);
        }
        due("nearest(3, 1)", x.nearest(3, 1), NONE);
        due("nearest(most, 1)", x.nearest(MOST, 1), NONE);
        due("nearest(0, 0)", x.nearest(0, 0), NONE);
        due("nearest(0, 61)", x.nearest(0, 61), NONE);
        due("nearest(0, most)", x.nearest(0, MOST), NONE);
        x.tell(1, 2, 6);
        due("without the law", x.nearest(0, 1), NONE);
        dueResults("RESULTS stay", x, 1, 0, 0, 2);
    }

    private static void withinLikewise() {
        says("13: All WITHIN r (0 or more) of THING q: likewise.");
        NearBook x = told(3, 2, 3, 4);
        due("within(1, 0)", x.within(1, 0), 1);
        dueResults("within(1, 0)", x, 1, 0);
        due("within(1, most)", x.within(1, MOST), 3);
        dueResults("within(1, most)", x, 1, 0, 0, 2, 2, 4);
        for (int below : BELOW_0) {
            due("within(" + below + ", 1)", x.within(below, 1), NONE);
            due("within(0, " + below + ")", x.within(0, below), NONE);
        }
        due("within(3, 1)", x.within(3, 1), NONE);
        due("within(most, 1)", x.within(MOST, 1), NONE);
        x.tell(1, 2, 6);
        due("without the law", x.within(0, 1), NONE);
        dueResults("RESULTS stay", x, 1, 0, 0, 2, 2, 4);
        x = line(4);
        x.within(0, 0);
        x.drop(0);
        due("of an empty book", x.within(0, MOST), 0);
        dueResults("of an empty book", x);
        due("all sixty", sixty().within(59, 59), 60);
        due("all sixty but one", sixty().within(59, 58), 59);
        due("the greatest", told(2, 100000).within(0, 100000), 2);
        due("one below the greatest", told(2, 100000).within(0, 99999), 1);
    }

    private static void farthestLikewise() {
        says("14: THE FARTHEST n: likewise.");
        NearBook x = sixty();
        due("farthest(0, 1)", x.farthest(0, 1), 1);
        dueResults("farthest(0, 1)", x, 59, 59);
        due("farthest(0, 60)", x.farthest(0, 60), 60);
        due("result(59, 0)", x.result(59, 0), 0);
        due("result(60, 0)", x.result(60, 0), NONE);
        x = told(3, 2, 3, 4);
        due("farthest(1, 60), there are fewer", x.farthest(1, 60), 3);
        dueResults("farthest(1, 60)", x, 2, 4, 0, 2, 1, 0);
        for (int below : BELOW_0) {
            due("farthest(" + below + ", 1)", x.farthest(below, 1), NONE);
            due("farthest(0, " + below + ")", x.farthest(0, below), NONE);
        }
        due("farthest(3, 1)", x.farthest(3, 1), NONE);
        due("farthest(most, 1)", x.farthest(MOST, 1), NONE);
        due("farthest(0, 0)", x.farthest(0, 0), NONE);
        due("farthest(0, 61)", x.farthest(0, 61), NONE);
        due("farthest(0, most)", x.farthest(0, MOST), NONE);
        x.tell(1, 2, 6);
        due("without the law", x.farthest(0, 1), NONE);
        dueResults("RESULTS stay", x, 2, 4, 0, 2, 1, 0);
        x = line(4);
        x.farthest(0, 1);
        x.drop(0);
        due("of an empty book", x.farthest(0, 60), 0);
        dueResults("of an empty book", x);
        x = told(2, 100000);
        due("the greatest", x.farthest(0, 2), 2);
        dueResults("the greatest", x, 1, 100000, 0, 0);
    }

    private static void resultOfTheLatest() {
        says("15: RESULT i of the latest of nearest(), within(), farthest(), centres(), best(), net() that was not NONE");
        NearBook x = line(0, 10, 14);
        x.nearest(0, 3);
        dueResults("nearest()", x, 0, 0, 1, 10, 2, 14);
        x.within(1, 4);
        dueResults("within()", x, 1, 0, 2, 4);
        x.farthest(1, 1);
        dueResults("farthest()", x, 0, 10);
        x.centres(2);
        dueResults("centres()", x, 0, 0, 2, 14);
        x.best(1);
        dueResults("best()", x, 1, 0);
        x.net(4);
        dueResults("net()", x, 0, 0, 1, 0);
        x.best(0);
        x.nearest(0, 61);
        dueResults("those that were NONE do not count", x, 0, 0, 1, 0);
        x.closest(2);
        x.chain(1);
        x.pair(0, 2);
        x.clusters(4);
        x.cluster(0, 4);
        x.middle(1);
        x.count(4);
        dueResults("others do not count", x, 0, 0, 1, 0);
        x.farthest(0, 2);
        x.kind(0);
        x.value(2, 0, 0);
        x.tell(0, 2, 5);
        x.drop(1);
        x.put(1);
        x.drop(2);
        x.put(x.thing(1));
        dueResults("they were found before", x, 2, 14, 1, 10);
    }

    private static void resultParts() {
        says("15: what 0 the THING, 1 its DISTANCE (from q; centres(): when it was taken, from the nearest before, the first 0; best(), net(): 0)");
        NearBook x = line(50, 90, 0, 70);
        x.centres(4);
        dueResults("centres()", x, 0, 0, 2, 50, 1, 40, 3, 20);
        x.best(2);
        dueResults("best()", x, 2, 0, 3, 0);
        x.net(20);
        dueResults("net()", x, 0, 0, 1, 0, 2, 0);
        x.drop(0);
        x.nearest(0, 2);
        dueResults("nearest()", x, 3, 20, 1, 40);
        x.within(0, 40);
        dueResults("within()", x, 3, 20, 1, 40);
        x.farthest(0, 2);
        dueResults("farthest()", x, 2, 50, 1, 40);
    }

    private static void resultRefused() {
        says("15: NONE if there is none such.");
        NearBook x = line(50, 90, 0);
        x.farthest(0, 2);
        for (int what = 0; what <= 1; what++) {
            for (int below : BELOW_0) {
                due("result(" + below + ", " + what + ")", x.result(below, what), NONE);
            }
            due("result(2, " + what + ")", x.result(2, what), NONE);
            due("result(59, " + what + ")", x.result(59, what), NONE);
            due("result(60, " + what + ")", x.result(60, what), NONE);
            due("result(most, " + what + ")", x.result(MOST, what), NONE);
            due("no results yet", line(1).result(0, what), NONE);
        }
        for (int below : BELOW_0) {
            due("result(0, " + below + ")", x.result(0, below), NONE);
        }
        due("result(0, 2)", x.result(0, 2), NONE);
        due("result(0, most)", x.result(0, MOST), NONE);
    }

    private static void closestRefused() {
        says("16: NONE: fewer than two are in THE BOOK, THE LAW does not hold, another what.");
        NearBook x = told(3, 2, 3, 4);
        for (int below : BELOW_0) {
            due("closest(" + below + ")", x.closest(below), NONE);
        }
        due("closest(3)", x.closest(3), NONE);
        due("closest(most)", x.closest(MOST), NONE);
        x.tell(1, 2, 6);
        dueClosest("without the law", x, NONE, NONE, NONE);
        x.tell(1, 2, 5);
        dueClosest("with it again", x, 0, 1, 2);
        x.drop(0);
        dueClosest("two are in it", x, 1, 2, 5);
        x.drop(1);
        dueClosest("one is in it", x, NONE, NONE, NONE);
        x.drop(2);
        dueClosest("none is in it", x, NONE, NONE, NONE);
        dueClosest("sixty", sixty(), 0, 1, 1);
        dueClosest("the last of sixty", lastTwoAlike(), 58, 59, 0);
    }

    private static NearBook lastTwoAlike() {
        NearBook x = sixty();
        x.value(59, 0, 58);
        return x;
    }

    private static void centresAtMost() {
        says("17: k CENTRES FARTHEST FIRST (1 to 60; all, if there are fewer) are the RESULTS: their RADIUS");
        NearBook x = sixty();
        due("centres(1)", x.centres(1), 59);
        dueResults("centres(1)", x, 0, 0);
        due("centres(2)", x.centres(2), 29);
        dueResults("centres(2)", x, 0, 0, 59, 59);
        due("centres(59)", x.centres(59), 1);
        due("count(3)", x.count(3), 59);
        due("centres(60)", x.centres(60), 0);
        due("count(3)", x.count(3), 60);
        due("result(59, 1)", x.result(59, 1), 1);
        x = line(8, 3);
        due("centres(60), there are fewer", x.centres(60), 0);
        dueResults("centres(60), there are fewer", x, 0, 0, 1, 5);
        due("centres(3), there are fewer", x.centres(3), 0);
        dueResults("centres(3), there are fewer", x, 0, 0, 1, 5);
        x.drop(0);
        due("centres(1), there is one", x.centres(1), 0);
        dueResults("centres(1), there is one", x, 1, 0);
    }

    private static void centresRefused() {
        says("17: NONE: THE BOOK is empty, no such k, THE LAW does not hold.");
        NearBook x = line(8, 3);
        x.drop(0);
        x.centres(1);
        for (int below : BELOW_0) {
            due("centres(" + below + ")", x.centres(below), NONE);
        }
        due("centres(0)", x.centres(0), NONE);
        due("centres(61)", x.centres(61), NONE);
        due("centres(most)", x.centres(MOST), NONE);
        x.drop(1);
        due("centres(1), there is none", x.centres(1), NONE);
        due("centres(60), there is none", x.centres(60), NONE);
        dueResults("RESULTS stay", x, 1, 0);
        x = told(3, 2, 3, 6);
        due("without the law", x.centres(1), NONE);
        dueResults("without the law", x);
    }

    private static void bestInRisingOrder() {
        says("18: THE BEST k (1 to 3) are the RESULTS, in rising order: their RADIUS");
        NearBook x = sixty();
        due("best(1)", x.best(1), 30);
        dueResults("best(1)", x, 29, 0);
        due("best(2)", x.best(2), 15);
        dueResults("best(2)", x, 13, 0, 44, 0);
        due("best(3)", x.best(3), 10);
        dueResults("best(3)", x, 7, 0, 28, 0, 49, 0);
        x = line(30, 10, 20);
        due("best(3), just three", x.best(3), 0);
        dueResults("best(3), just three", x, 0, 0, 1, 0, 2, 0);
        x.drop(0);
        due("best(2), just two", x.best(2), 0);
        dueResults("best(2), just two", x, 1, 0, 2, 0);
        x.drop(1);
        due("best(1), just one", x.best(1), 0);
        dueResults("best(1), just one", x, 2, 0);
    }

    private static void bestRefused() {
        says("18: NONE: fewer than k are in THE BOOK, no such k, THE LAW does not hold.");
        NearBook x = line(30, 10, 20);
        x.drop(0);
        x.drop(1);
        x.best(1);
        due("best(2), one is in it", x.best(2), NONE);
        due("best(3), one is in it", x.best(3), NONE);
        x.drop(2);
        for (int k = 1; k <= 3; k++) {
            due("best(" + k + "), none is in it", x.best(k), NONE);
        }
        dueResults("RESULTS stay", x, 2, 0);
        x.put(0);
        x.put(1);
        due("best(3), two are in it", x.best(3), NONE);
        x = line(1, 2, 3, 4, 5);
        for (int below : BELOW_0) {
            due("best(" + below + ")", x.best(below), NONE);
        }
        due("best(0)", x.best(0), NONE);
        due("best(4)", x.best(4), NONE);
        due("best(most)", x.best(MOST), NONE);
        x = told(3, 2, 3, 6);
        for (int k = 1; k <= 3; k++) {
            due("best(" + k + ") without the law", x.best(k), NONE);
        }
        dueResults("without the law", x);
    }

    private static void chainTakenAndRefused() {
        says("19: THE CHAIN, what 0 how many pairs, 1 the sum of DISTANCES; NONE: THE LAW does not hold, another what.");
        NearBook x = sixty();
        due("chain(0), sixty", x.chain(0), 59);
        due("chain(1), sixty", x.chain(1), 59);
        x = farApart(29);
        due("chain(0), the greatest", x.chain(0), 28);
        due("chain(1), the greatest", x.chain(1), 2800000);
        x = told(3, 2, 3, 4);
        for (int below : BELOW_0) {
            due("chain(" + below + ")", x.chain(below), NONE);
        }
        due("chain(2)", x.chain(2), NONE);
        due("chain(most)", x.chain(MOST), NONE);
        x.tell(1, 2, 6);
        due("chain(0) without the law", x.chain(0), NONE);
        due("chain(1) without the law", x.chain(1), NONE);
        x.tell(1, 2, 5);
        duePairs("three", x, 0, 1, 2, 0, 2, 3);
        x.drop(1);
        duePairs("two", x, 0, 2, 3);
        x.drop(0);
        duePairs("one", x);
        x.drop(2);
        duePairs("none", x);
    }

    private static void pairInOrder() {
        says("20: Pair i of THE CHAIN, in the order in which they were taken: what 0, 1 the lower, higher number, 2 the DISTANCE");
        NearBook x = sixty();
        for (int i = 0; i < 59; i++) {
            due("pair(" + i + ", 0)", x.pair(i, 0), i);
            due("pair(" + i + ", 1)", x.pair(i, 1), i + 1);
            due("pair(" + i + ", 2)", x.pair(i, 2), 1);
        }
        duePairs("the last first", line(0, 100, 60, 30, 29), 3, 4, 1, 0, 4, 29, 2, 3, 30, 1, 2, 40);
    }

    private static void pairRefused() {
        says("20: NONE: there is none such, THE LAW does not hold.");
        NearBook x = sixty();
        due("pair(58, 0)", x.pair(58, 0), 58);
        due("pair(59, 0)", x.pair(59, 0), NONE);
        due("pair(60, 0)", x.pair(60, 0), NONE);
        due("pair(most, 0)", x.pair(MOST, 0), NONE);
        for (int below : BELOW_0) {
            due("pair(" + below + ", 0)", x.pair(below, 0), NONE);
            due("pair(0, " + below + ")", x.pair(0, below), NONE);
        }
        due("pair(0, 3)", x.pair(0, 3), NONE);
        due("pair(0, most)", x.pair(0, MOST), NONE);
        x = told(3, 2, 3, 6);
        for (int what = 0; what <= 2; what++) {
            due("pair(0, " + what + ") without the law", x.pair(0, what), NONE);
            due("pair(0, " + what + ") of no things", new NearBook().pair(0, what), NONE);
        }
    }

    /** All as far from one another as may be told. */
    private static NearBook farApart(int things) {
        int[] distances = new int[things * (things - 1) / 2];
        for (int i = 0; i < distances.length; i++) {
            distances[i] = 100000;
        }
        return told(things, distances);
    }

    private static void clustersTakenAndRefused() {
        says("21: CLUSTERS by r: how many; NONE: r is below 0, THE LAW does not hold.");
        NearBook x = sixty();
        due("clusters(0)", x.clusters(0), 60);
        due("clusters(1)", x.clusters(1), 1);
        due("clusters(most)", x.clusters(MOST), 1);
        for (int below : BELOW_0) {
            due("clusters(" + below + ")", x.clusters(below), NONE);
        }
        due("an empty book", new NearBook().clusters(0), 0);
        due("an empty book", new NearBook().clusters(MOST), 0);
        due("an empty book, r below 0", new NearBook().clusters(-1), NONE);
        due("one", line(5).clusters(0), 1);
        due("without the law", told(3, 2, 3, 6).clusters(9), NONE);
    }

    private static void clusterTakenAndRefused() {
        says("22: The lowest number of THING t's CLUSTER by r; NONE: it is not in THE BOOK, or as clusters().");
        NearBook x = sixty();
        due("cluster(59, 1)", x.cluster(59, 1), 0);
        due("cluster(59, 0)", x.cluster(59, 0), 59);
        due("cluster(0, most)", x.cluster(0, MOST), 0);
        for (int below : BELOW_0) {
            due("cluster(0, " + below + ")", x.cluster(0, below), NONE);
            due("cluster(" + below + ", 0)", x.cluster(below, 0), NONE);
        }
        due("cluster(60, 0)", x.cluster(60, 0), NONE);
        due("cluster(most, 0)", x.cluster(MOST, 0), NONE);
        x.drop(30);
        due("cluster(30, 1), not in the book", x.cluster(30, 1), NONE);
        due("cluster(29, 1)", x.cluster(29, 1), 0);
        due("cluster(31, 1)", x.cluster(31, 1), 31);
        due("cluster(59, 1)", x.cluster(59, 1), 31);
        due("cluster(59, 2)", x.cluster(59, 2), 0);
        x.drop(0);
        due("cluster(29, 1), the lowest is out", x.cluster(29, 1), 1);
        due("without the law", told(3, 2, 3, 6).cluster(0, 9), NONE);
        due("of no things", new NearBook().cluster(0, 0), NONE);
    }

    private static void netTakenAndRefused() {
        says("23: A NET by r is the RESULTS: how many; NONE as clusters().");
        NearBook x = sixty();
        due("net(0)", x.net(0), 60);
        due("result(59, 0)", x.result(59, 0), 59);
        due("net(59)", x.net(59), 1);
        dueResults("net(59)", x, 0, 0);
        due("net(58)", x.net(58), 2);
        dueResults("net(58)", x, 0, 0, 59, 0);
        due("net(most)", x.net(MOST), 1);
        for (int below : BELOW_0) {
            due("net(" + below + ")", x.net(below), NONE);
        }
        dueResults("RESULTS stay", x, 0, 0);
        x = line(5);
        x.net(0);
        x.drop(0);
        due("an empty book", x.net(0), 0);
        dueResults("an empty book", x);
        x = told(3, 2, 3, 4);
        x.net(3);
        x.tell(1, 2, 6);
        due("without the law", x.net(9), NONE);
        dueResults("without the law, RESULTS stay", x, 0, 0);
    }

    private static void middleParts() {
        says("24: THE MIDDLE, what 0 the THING, 1 its sum of DISTANCES");
        dueMiddle("sixty", sixty(), 29, 900);
        dueMiddle("the greatest", farApart(29), 0, 2800000);
        dueMiddle("one", line(5), 0, 0);
        dueMiddle("two", line(5, 9), 0, 4);
    }

    private static void middleRefused() {
        says("24: NONE: THE BOOK is empty, THE LAW does not hold, another what.");
        NearBook x = line(5);
        for (int below : BELOW_0) {
            due("middle(" + below + ")", x.middle(below), NONE);
        }
        due("middle(2)", x.middle(2), NONE);
        due("middle(most)", x.middle(MOST), NONE);
        x.drop(0);
        dueMiddle("an empty book", x, NONE, NONE);
        dueMiddle("no things", new NearBook(), NONE, NONE);
        dueMiddle("without the law", told(3, 2, 3, 6), NONE, NONE);
    }

    private static void countOfAll() {
        says("25: 0 THINGS, 1 those in THE BOOK, 2 THE KIND, 3 RESULTS");
        NearBook x = sixty();
        x.thing(0);
        x.nearest(0, 60);
        due("count(0)", x.count(0), 60);
        due("count(1)", x.count(1), 60);
        due("count(3)", x.count(3), 60);
        for (int k = 0; k <= 5; k++) {
            x.kind(k);
            due("count(2)", x.count(2), k);
        }
        x.drop(7);
        due("count(1)", x.count(1), 59);
        due("count(3)", x.count(3), 60);
    }

    private static void countGreatestDistance() {
        says("25: 4 the greatest DISTANCE of two in THE BOOK (0 with fewer than two; NONE if THE LAW does not hold)");
        due("no things", new NearBook().count(4), 0);
        NearBook x = line(10, 900, -5, 7);
        due("four", x.count(4), 905);
        x.drop(1);
        due("one out of it is not counted", x.count(4), 15);
        x.drop(2);
        due("two", x.count(4), 3);
        x.drop(0);
        due("one", x.count(4), 0);
        x.drop(3);
        due("none", x.count(4), 0);
        due("two alike", line(3, 3).count(4), 0);
        due("sixty", sixty().count(4), 59);
        due("the greatest", told(2, 100000).count(4), 100000);
        x = told(3, 2, 3, 5);
        due("with the law", x.count(4), 5);
        x.tell(1, 2, 6);
        due("without the law", x.count(4), NONE);
        x.drop(0);
        due("without the law, two", x.count(4), NONE);
    }

    private static void countOfValues() {
        says("25: 10 + t: how many VALUES THING t has.");
        NearBook x = new NearBook();
        due("no things, count(10)", x.count(10), NONE);
        for (int t = 0; t < 60; t++) {
            x.thing(8 - t % 9);
            due("count(10 + " + t + ")", x.count(10 + t), 8 - t % 9);
            due("count(11 + " + t + ")", x.count(11 + t), NONE);
        }
    }

    private static void countOfOthers() {
        says("25: NONE for others.");
        NearBook x = sixty();
        for (int what = 5; what <= 9; what++) {
            due("count(" + what + ")", x.count(what), NONE);
        }
        due("count(70)", x.count(70), NONE);
        for (int less = 0; less <= 70; less++) {
            due("count(most - " + less + ")", x.count(MOST - less), NONE);
            due("count(least + " + less + ")", x.count(LEAST + less), NONE);
        }
        for (int below : BELOW_0) {
            due("count(" + below + ")", x.count(below), NONE);
        }
    }
}
