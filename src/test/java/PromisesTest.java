/** Each promise of the document by its number: ordinary inputs, its edges, wrong inputs. */
public final class PromisesTest {
    private static final int LEAST = Integer.MIN_VALUE;
    private static final int MOST = Integer.MAX_VALUE;

    private static int calls = 0;
    private static int wrong = 0;
    private static int promise = 0;

    public static void main(String[] args) {
        newObject();
        thing();
        value();
        tell();
        kind();
        distanceUnlike();
        distanceEdits();
        distanceSumsAndGreatest();
        distanceSets();
        distanceTold();
        distanceAfterChanges();
        law();
        three();
        putDropHas();
        nearest();
        within();
        farthest();
        result();
        closest();
        centres();
        best();
        chainAndPair();
        clusters();
        net();
        middle();
        count();
        lawGuardsSearches();
        refusedCallsKeepResults();
        fullBook();
        System.out.println("PromisesTest: " + calls + " answers, " + wrong + " not as due");
        if (wrong != 0) {
            System.exit(1);
        }
    }

    private static void due(String call, long got, long want) {
        calls++;
        if (got != want) {
            wrong++;
            System.out.println("promise " + promise + ": " + call + " answered " + got + ", due is " + want);
        }
    }

    private static void due(String call, boolean got, boolean want) {
        due(call, got ? 1 : 0, want ? 1 : 0);
    }

    private static void dueResults(String call, NearBook x, int... thingsAndDistances) {
        int size = thingsAndDistances.length / 2;
        due(call + " count(3)", x.count(3), size);
        for (int i = 0; i < size; i++) {
            due(call + " result(" + i + ", 0)", x.result(i, 0), thingsAndDistances[2 * i]);
            due(call + " result(" + i + ", 1)", x.result(i, 1), thingsAndDistances[2 * i + 1]);
        }
        due(call + " result behind the end", x.result(size, 0), -1);
        due(call + " result behind the end", x.result(size, 1), -1);
    }

    private static int row(NearBook x, int... values) {
        int t = x.thing(values.length);
        for (int i = 0; i < values.length; i++) {
            x.value(t, i, values[i]);
        }
        return t;
    }

    /** Things on a line, all in the book, by SUMS: their distances are plain to see. */
    private static NearBook line(int... places) {
        NearBook x = new NearBook();
        x.kind(2);
        for (int place : places) {
            x.put(row(x, place));
        }
        return x;
    }

    /** Things with a told table: upper half, row by row; all in the book. */
    private static NearBook told(int things, int... distances) {
        NearBook x = new NearBook();
        x.kind(5);
        for (int t = 0; t < things; t++) {
            x.put(x.thing(0));
        }
        int next = 0;
        for (int a = 0; a < things; a++) {
            for (int b = a + 1; b < things; b++) {
                x.tell(a, b, distances[next++]);
            }
        }
        return x;
    }

    private static void newObject() {
        promise = 1;
        NearBook x = new NearBook();
        due("count(0)", x.count(0), 0);
        due("count(1)", x.count(1), 0);
        due("count(2)", x.count(2), 0);
        due("count(3)", x.count(3), 0);
        due("count(4)", x.count(4), 0);
        due("law()", x.law(), 1);
        due("result(0, 0)", x.result(0, 0), -1);
        NearBook other = new NearBook();
        x.thing(1);
        x.put(0);
        x.kind(3);
        due("count(0) of another object", other.count(0), 0);
        due("count(1) of another object", other.count(1), 0);
        due("count(2) of another object", other.count(2), 0);
        due("NONE", NearBook.NONE, -1);
    }

    private static void thing() {
        promise = 2;
        NearBook x = new NearBook();
        due("thing(-1)", x.thing(-1), -1);
        due("thing(9)", x.thing(9), -1);
        due("thing(least)", x.thing(LEAST), -1);
        due("thing(most)", x.thing(MOST), -1);
        due("count(0)", x.count(0), 0);
        for (int t = 0; t < 60; t++) {
            due("thing(" + t % 9 + ")", x.thing(t % 9), t);
        }
        due("thing(0), the 61st", x.thing(0), -1);
        due("thing(8), the 61st", x.thing(8), -1);
        due("count(0)", x.count(0), 60);
        for (int t = 0; t < 60; t++) {
            due("count(10 + t)", x.count(10 + t), t % 9);
        }
        x.kind(2);
        due("all values are 0", x.distance(8, 17), 0);
    }

    private static void value() {
        promise = 3;
        NearBook x = new NearBook();
        due("value of no thing", x.value(0, 0, 1), false);
        x.thing(3);
        x.thing(0);
        x.thing(8);
        due("value(0, 0, 1000)", x.value(0, 0, 1000), true);
        due("value(0, 2, -1000)", x.value(0, 2, -1000), true);
        due("value(0, 0, 1001)", x.value(0, 0, 1001), false);
        due("value(0, 0, -1001)", x.value(0, 0, -1001), false);
        due("value(0, 0, least)", x.value(0, 0, LEAST), false);
        due("value(0, 0, most)", x.value(0, 0, MOST), false);
        due("value(0, 3, 1)", x.value(0, 3, 1), false);
        due("value(0, -1, 1)", x.value(0, -1, 1), false);
        due("value(0, most, 1)", x.value(0, MOST, 1), false);
        due("value(0, least, 1)", x.value(0, LEAST, 1), false);
        due("value(1, 0, 1)", x.value(1, 0, 1), false);
        due("value(2, 7, 5)", x.value(2, 7, 5), true);
        due("value(2, 8, 5)", x.value(2, 8, 5), false);
        due("value(3, 0, 1)", x.value(3, 0, 1), false);
        due("value(-1, 0, 1)", x.value(-1, 0, 1), false);
        due("value(least, 0, 1)", x.value(LEAST, 0, 1), false);
        due("value(most, 0, 1)", x.value(MOST, 0, 1), false);
        x.kind(2);
        due("what was refused changed nothing", x.distance(0, 1), 2000);
        due("what was refused changed nothing", x.distance(2, 1), 5);
        x.value(0, 0, 7);
        due("a value is written over", x.distance(0, 1), 1007);
    }

    private static void tell() {
        promise = 4;
        NearBook x = new NearBook();
        due("tell(0, 1, 1) of none", x.tell(0, 1, 1), false);
        x.thing(0);
        due("tell(0, 0, 0)", x.tell(0, 0, 0), false);
        due("tell(0, 1, 1) of one", x.tell(0, 1, 1), false);
        x.thing(0);
        due("tell(0, 1, 100000)", x.tell(0, 1, 100000), true);
        due("tell(0, 1, 100001)", x.tell(0, 1, 100001), false);
        due("tell(0, 1, -1)", x.tell(0, 1, -1), false);
        due("tell(0, 1, least)", x.tell(0, 1, LEAST), false);
        due("tell(0, 1, most)", x.tell(0, 1, MOST), false);
        due("tell(1, 1, 5)", x.tell(1, 1, 5), false);
        due("tell(-1, 1, 5)", x.tell(-1, 1, 5), false);
        due("tell(1, -1, 5)", x.tell(1, -1, 5), false);
        due("tell(2, 1, 5)", x.tell(2, 1, 5), false);
        due("tell(1, 2, 5)", x.tell(1, 2, 5), false);
        due("tell(least, most, 5)", x.tell(LEAST, MOST, 5), false);
        due("distance of another kind", x.distance(0, 1), 0);
        x.kind(5);
        due("distance(0, 1)", x.distance(0, 1), 100000);
        due("distance(1, 0)", x.distance(1, 0), 100000);
        due("distance(1, 1)", x.distance(1, 1), 0);
        due("tell(1, 0, 0)", x.tell(1, 0, 0), true);
        due("distance(0, 1)", x.distance(0, 1), 0);
        x.thing(0);
        due("0 at first", x.distance(0, 2), 0);
    }

    private static void kind() {
        promise = 5;
        NearBook x = line(0, 5, 9);
        for (int k = 0; k <= 5; k++) {
            due("kind(" + k + ")", x.kind(k), true);
            due("kind(6)", x.kind(6), false);
            due("kind(-1)", x.kind(-1), false);
            due("kind(least)", x.kind(LEAST), false);
            due("kind(most)", x.kind(MOST), false);
            due("count(2)", x.count(2), k);
            due("the book stays", x.count(1), 3);
            due("the things stay", x.count(0), 3);
        }
        due("the same kind again", x.kind(5), true);
    }

    private static void distanceUnlike() {
        promise = 6;
        NearBook x = new NearBook();
        int a = row(x, 1, 2, 3);
        int b = row(x, 1, 0, 3, 0, 5);
        int none = row(x);
        int zeros = row(x, 0, 0, 0, 0, 0, 0, 0, 0);
        int full = row(x, 1, 1, 1, 1, 1, 1, 1, 1);
        due("unlike", x.distance(a, b), 2);
        due("unlike, both ways", x.distance(b, a), 2);
        due("a place behind the end has 0", x.distance(none, zeros), 0);
        due("unlike in all places", x.distance(zeros, full), 8);
        due("unlike behind the end", x.distance(a, full), 7);
        due("of itself", x.distance(a, a), 0);
        due("distance(a, 5)", x.distance(a, 5), -1);
        due("distance(5, a)", x.distance(5, a), -1);
        due("distance(-1, a)", x.distance(-1, a), -1);
        due("distance(a, least)", x.distance(a, LEAST), -1);
        due("distance(most, a)", x.distance(MOST, a), -1);
        due("distance(5, 5)", x.distance(5, 5), -1);
    }

    private static void distanceEdits() {
        promise = 6;
        NearBook x = new NearBook();
        x.kind(1);
        int kitten = row(x, 11, 9, 20, 20, 5, 14);
        int sitting = row(x, 19, 9, 20, 20, 9, 14, 7);
        int none = row(x);
        int zeros = row(x, 0, 0);
        int shifted = row(x, 1, 2, 3, 4, 5, 6, 7, 8);
        int shiftedBy = row(x, 2, 3, 4, 5, 6, 7, 8, 9);
        int turned = row(x, 2, 1);
        int straight = row(x, 1, 2);
        due("edits", x.distance(kitten, sitting), 3);
        due("edits, both ways", x.distance(sitting, kitten), 3);
        due("rows count, not places", x.distance(none, zeros), 2);
        due("edits of a none", x.distance(none, sitting), 7);
        due("one out and one in", x.distance(shifted, shiftedBy), 2);
        due("two turned about", x.distance(turned, straight), 2);
        due("of itself", x.distance(kitten, kitten), 0);
        due("no rows", x.distance(none, none), 0);
    }

    private static void distanceSumsAndGreatest() {
        promise = 6;
        NearBook x = new NearBook();
        int a = row(x, 10, -5, 3);
        int b = row(x, 4, 5, 3, 0, -7);
        int up = row(x, 1000, 1000, 1000, 1000, 1000, 1000, 1000, 1000);
        int down = row(x, -1000, -1000, -1000, -1000, -1000, -1000, -1000, -1000);
        x.kind(2);
        due("sums", x.distance(a, b), 23);
        due("sums, both ways", x.distance(b, a), 23);
        due("the greatest sum", x.distance(up, down), 16000);
        due("of itself", x.distance(a, a), 0);
        x.kind(3);
        due("greatest", x.distance(a, b), 10);
        due("greatest, both ways", x.distance(b, a), 10);
        due("the greatest of all", x.distance(up, down), 2000);
        due("greatest behind the end", x.distance(a, up), 1005);
        due("greatest in the first place", x.distance(row(x, 9, 1, 1), row(x, 1, 2, 3)), 8);
        due("greatest in the last place", x.distance(row(x, 0, 0, 0, 0, 0, 0, 0, 5), row(x)), 5);
        due("of itself", x.distance(a, a), 0);
    }

    private static void distanceSets() {
        promise = 6;
        NearBook x = new NearBook();
        x.kind(4);
        int a = row(x, 1, 1, 2, 3, 3);
        int b = row(x, 3, 2, 2, 9);
        int none = row(x);
        int zero = row(x, 0, 0, 0);
        due("each counts once", x.distance(a, b), 2);
        due("both ways", x.distance(b, a), 2);
        due("of nothing", x.distance(none, a), 3);
        due("a 0 in a row counts", x.distance(none, zero), 1);
        due("of none in common", x.distance(zero, a), 4);
        due("of itself", x.distance(a, a), 0);
    }

    private static void distanceTold() {
        promise = 6;
        NearBook x = told(3, 4, 9, 6);
        due("told", x.distance(0, 1), 4);
        due("told", x.distance(2, 0), 9);
        due("told", x.distance(1, 2), 6);
        due("of itself", x.distance(2, 2), 0);
        x.tell(0, 2, 50);
        due("told, the law broken", x.distance(0, 2), 50);
        x.kind(0);
        due("other kinds are not told", x.distance(0, 2), 0);
        x.tell(0, 1, 77);
        x.kind(5);
        due("told while another kind was at hand", x.distance(0, 1), 77);
    }

    private static void distanceAfterChanges() {
        promise = 6;
        NearBook x = line(0, 10, 30);
        due("distance(0, 2)", x.distance(0, 2), 30);
        x.value(2, 0, -4);
        due("after value()", x.distance(0, 2), 4);
        due("after value(), both ways", x.distance(2, 1), 14);
        x.kind(0);
        due("after kind()", x.distance(2, 1), 1);
        x.value(2, 0, 10);
        x.kind(2);
        due("after value() by another kind", x.distance(2, 1), 0);
        x.value(0, 0, 11);
        due("nearest after value()", x.nearest(0, 1), 1);
        dueResults("nearest after value()", x, 0, 0);
        due("count(4) after value()", x.count(4), 1);
        NearBook y = told(2, 5);
        due("chain(1)", y.chain(1), 5);
        y.tell(1, 0, 8);
        due("chain(1) after tell()", y.chain(1), 8);
    }

    private static void law() {
        promise = 7;
        NearBook x = new NearBook();
        x.kind(5);
        due("of nothing", x.law(), 1);
        x.thing(0);
        x.thing(0);
        x.tell(0, 1, 100);
        due("of two", x.law(), 1);
        x.thing(0);
        due("a new thing is 0 from all", x.law(), 0);
        x.tell(0, 2, 60);
        x.tell(1, 2, 40);
        due("together just as far", x.law(), 1);
        x.tell(1, 2, 39);
        due("one less", x.law(), 0);
        x.tell(1, 2, 160);
        due("as far the other way", x.law(), 1);
        x.tell(1, 2, 161);
        due("one more", x.law(), 0);
        for (int k = 0; k < 5; k++) {
            x.kind(k);
            due("by kind " + k, x.law(), 1);
        }
        x.kind(5);
        due("told again", x.law(), 0);
        due("not only of the book", x.count(1), 0);
    }

    private static void three() {
        promise = 8;
        NearBook x = told(4, 5, 5, 5, 5, 5, 5);
        due("three(0), it holds", x.three(0), -1);
        x.tell(0, 1, 20);
        dueThree("the middle is above both", x, 0, 2, 1);
        x.tell(0, 1, 5);
        x.tell(2, 3, 11);
        dueThree("late ones", x, 2, 0, 3);
        x.tell(1, 3, 11);
        dueThree("like ends, the lowest first", x, 1, 0, 3);
        x.tell(0, 3, 11);
        due("all sides as long", x.three(0), -1);
        x.tell(0, 3, 23);
        dueThree("the lowest middle", x, 0, 1, 3);
        due("three(-1)", x.three(-1), -1);
        due("three(3)", x.three(3), -1);
        due("three(least)", x.three(LEAST), -1);
        due("three(most)", x.three(MOST), -1);
        x.kind(1);
        due("three(0) by another kind", x.three(0), -1);
        x.kind(5);
        x.drop(0);
        x.drop(3);
        dueThree("things out of the book count", x, 0, 1, 3);
    }

    private static void dueThree(String call, NearBook x, int a, int b, int c) {
        due(call + " law()", x.law(), 0);
        due(call + " three(0)", x.three(0), a);
        due(call + " three(1)", x.three(1), b);
        due(call + " three(2)", x.three(2), c);
    }

    private static void putDropHas() {
        promise = 9;
        NearBook x = new NearBook();
        due("put(0) of none", x.put(0), false);
        x.thing(1);
        x.thing(1);
        x.thing(1);
        due("put(1)", x.put(1), true);
        due("put(1) again", x.put(1), false);
        due("put(3)", x.put(3), false);
        due("put(-1)", x.put(-1), false);
        due("put(least)", x.put(LEAST), false);
        due("put(most)", x.put(MOST), false);
        due("count(1)", x.count(1), 1);
        due("put(0)", x.put(0), true);
        due("put(2)", x.put(2), true);
        promise = 11;
        due("has(1)", x.has(1), 1);
        due("has(3)", x.has(3), -1);
        due("has(-1)", x.has(-1), -1);
        due("has(least)", x.has(LEAST), -1);
        due("has(most)", x.has(MOST), -1);
        promise = 10;
        due("drop(1)", x.drop(1), true);
        due("drop(1) again", x.drop(1), false);
        due("has(1)", x.has(1), 0);
        due("has(0)", x.has(0), 1);
        due("has(2)", x.has(2), 1);
        due("drop(3)", x.drop(3), false);
        due("drop(-1)", x.drop(-1), false);
        due("drop(least)", x.drop(LEAST), false);
        due("drop(most)", x.drop(MOST), false);
        due("count(1)", x.count(1), 2);
        due("drop(2), the last", x.drop(2), true);
        due("drop(0), the only one", x.drop(0), true);
        due("drop(0) of an empty book", x.drop(0), false);
        due("count(0)", x.count(0), 3);
        promise = 9;
        due("put(1) once more", x.put(1), true);
        due("has(1)", x.has(1), 1);
    }

    private static void nearest() {
        promise = 12;
        NearBook x = line(10, 4, 6, 0, 5, 5);
        x.drop(4);
        due("of one out of the book", x.nearest(4, 4), 4);
        dueResults("of one out of the book", x, 5, 0, 1, 1, 2, 1, 0, 5);
        due("of one in the book", x.nearest(1, 1), 1);
        dueResults("of one in the book", x, 1, 0);
        due("all, if there are fewer", x.nearest(3, 60), 5);
        dueResults("all, if there are fewer", x, 3, 0, 1, 4, 5, 5, 2, 6, 0, 10);
        due("nearest(0, 0)", x.nearest(0, 0), -1);
        due("nearest(0, 61)", x.nearest(0, 61), -1);
        due("nearest(0, least)", x.nearest(0, LEAST), -1);
        due("nearest(0, most)", x.nearest(0, MOST), -1);
        due("nearest(6, 1)", x.nearest(6, 1), -1);
        due("nearest(-1, 1)", x.nearest(-1, 1), -1);
        due("nearest(most, 1)", x.nearest(MOST, 1), -1);
        due("RESULTS stay", x.count(3), 5);
        NearBook empty = new NearBook();
        empty.thing(2);
        empty.put(0);
        empty.nearest(0, 1);
        empty.drop(0);
        due("of an empty book", empty.nearest(0, 60), 0);
        dueResults("of an empty book", empty);
    }

    private static void within() {
        promise = 13;
        NearBook x = line(10, 4, 6, 0, 5, 5);
        due("within(4, 0)", x.within(4, 0), 2);
        dueResults("within(4, 0)", x, 4, 0, 5, 0);
        due("within(4, 1)", x.within(4, 1), 4);
        dueResults("within(4, 1)", x, 4, 0, 5, 0, 1, 1, 2, 1);
        due("within(3, 3)", x.within(3, 3), 1);
        due("within(3, 4)", x.within(3, 4), 2);
        dueResults("within(3, 4)", x, 3, 0, 1, 4);
        due("within(0, most)", x.within(0, MOST), 6);
        dueResults("within(0, most)", x, 0, 0, 2, 4, 4, 5, 5, 5, 1, 6, 3, 10);
        due("within(0, -1)", x.within(0, -1), -1);
        due("within(0, least)", x.within(0, LEAST), -1);
        due("within(6, 0)", x.within(6, 0), -1);
        due("within(-1, 0)", x.within(-1, 0), -1);
        due("RESULTS stay", x.count(3), 6);
        x.drop(3);
        due("none is near enough", x.within(3, 3), 0);
        dueResults("none is near enough", x);
    }

    private static void farthest() {
        promise = 14;
        NearBook x = line(10, 4, 6, 0, 5, 5);
        due("farthest(4, 3)", x.farthest(4, 3), 3);
        dueResults("farthest(4, 3)", x, 0, 5, 3, 5, 1, 1);
        due("farthest(4, 60)", x.farthest(4, 60), 6);
        dueResults("farthest(4, 60)", x, 0, 5, 3, 5, 1, 1, 2, 1, 4, 0, 5, 0);
        due("farthest(0, 0)", x.farthest(0, 0), -1);
        due("farthest(0, 61)", x.farthest(0, 61), -1);
        due("farthest(0, least)", x.farthest(0, LEAST), -1);
        due("farthest(6, 1)", x.farthest(6, 1), -1);
        due("farthest(-1, 1)", x.farthest(-1, 1), -1);
        due("RESULTS stay", x.count(3), 6);
        NearBook far = told(3, 100000, 100000, 0);
        due("the greatest distances", far.farthest(0, 2), 2);
        dueResults("the greatest distances", far, 1, 100000, 2, 100000);
        NearBook empty = new NearBook();
        empty.thing(0);
        due("of an empty book", empty.farthest(0, 1), 0);
    }

    private static void result() {
        promise = 15;
        NearBook x = line(0, 3, 9);
        due("result(0, 0) before any", x.result(0, 0), -1);
        x.nearest(1, 2);
        due("result(-1, 0)", x.result(-1, 0), -1);
        due("result(2, 0)", x.result(2, 0), -1);
        due("result(60, 0)", x.result(60, 0), -1);
        due("result(least, 0)", x.result(LEAST, 0), -1);
        due("result(most, 1)", x.result(MOST, 1), -1);
        due("result(0, 2)", x.result(0, 2), -1);
        due("result(0, -1)", x.result(0, -1), -1);
        due("result(0, most)", x.result(0, MOST), -1);
        dueResults("as found", x, 1, 0, 0, 3);
        x.value(0, 0, 500);
        x.kind(0);
        x.drop(1);
        x.thing(4);
        dueResults("as it was found", x, 1, 0, 0, 3);
        x.closest(0);
        x.chain(0);
        x.clusters(3);
        x.middle(0);
        dueResults("others leave them", x, 1, 0, 0, 3);
    }

    private static void closest() {
        promise = 16;
        NearBook x = line(0, 20, 33, 26, 50);
        due("closest(0)", x.closest(0), 1);
        due("closest(1)", x.closest(1), 3);
        due("closest(2)", x.closest(2), 6);
        x.value(2, 0, 14);
        due("like ones, the lower first: closest(0)", x.closest(0), 1);
        due("like ones, the lower second: closest(1)", x.closest(1), 2);
        x.value(0, 0, 56);
        due("the lower first one: closest(0)", x.closest(0), 0);
        due("the lower first one: closest(1)", x.closest(1), 4);
        due("closest(2)", x.closest(2), 6);
        due("closest(3)", x.closest(3), -1);
        due("closest(-1)", x.closest(-1), -1);
        due("closest(least)", x.closest(LEAST), -1);
        due("closest(most)", x.closest(MOST), -1);
        NearBook two = line(8, 0);
        due("of two: closest(0)", two.closest(0), 0);
        due("of two: closest(1)", two.closest(1), 1);
        due("of two: closest(2)", two.closest(2), 8);
        two.drop(0);
        due("of one", two.closest(0), -1);
        two.drop(1);
        due("of none", two.closest(2), -1);
    }

    private static void centres() {
        promise = 17;
        NearBook x = line(50, 0, 100, 49, 51, 20);
        due("centres(1)", x.centres(1), 50);
        dueResults("centres(1)", x, 0, 0);
        due("centres(2)", x.centres(2), 50);
        dueResults("centres(2)", x, 0, 0, 1, 50);
        due("centres(3)", x.centres(3), 20);
        dueResults("centres(3)", x, 0, 0, 1, 50, 2, 50);
        due("centres(4)", x.centres(4), 1);
        dueResults("centres(4)", x, 0, 0, 1, 50, 2, 50, 5, 20);
        due("centres(60)", x.centres(60), 0);
        dueResults("centres(60)", x, 0, 0, 1, 50, 2, 50, 5, 20, 3, 1, 4, 1);
        due("centres(0)", x.centres(0), -1);
        due("centres(61)", x.centres(61), -1);
        due("centres(-1)", x.centres(-1), -1);
        due("centres(least)", x.centres(LEAST), -1);
        due("RESULTS stay", x.count(3), 6);
        x.drop(0);
        due("the lowest in the book", x.centres(1), 100);
        dueResults("the lowest in the book", x, 1, 0);
        NearBook like = line(7, 7, 7, 7);
        like.drop(1);
        due("like ones, centres(2)", like.centres(2), 0);
        dueResults("like ones, centres(2)", like, 0, 0, 2, 0);
        due("like ones, centres(3)", like.centres(3), 0);
        dueResults("like ones, centres(3)", like, 0, 0, 2, 0, 3, 0);
        due("of an empty book", new NearBook().centres(1), -1);
    }

    private static void best() {
        promise = 18;
        NearBook x = line(0, 100, 10, 90, 50, 5, 95);
        due("best(1)", x.best(1), 50);
        dueResults("best(1)", x, 4, 0);
        due("best(2)", x.best(2), 40);
        dueResults("best(2)", x, 0, 0, 3, 0);
        due("best(3)", x.best(3), 5);
        dueResults("best(3)", x, 4, 0, 5, 0, 6, 0);
        due("best(0)", x.best(0), -1);
        due("best(4)", x.best(4), -1);
        due("best(least)", x.best(LEAST), -1);
        due("best(most)", x.best(MOST), -1);
        due("RESULTS stay", x.count(3), 3);
        NearBook like = line(7, 7, 7, 7, 7);
        like.drop(0);
        due("like ones, best(1)", like.best(1), 0);
        dueResults("like ones, best(1)", like, 1, 0);
        due("like ones, best(2)", like.best(2), 0);
        dueResults("like ones, best(2)", like, 1, 0, 2, 0);
        due("like ones, best(3)", like.best(3), 0);
        dueResults("like ones, best(3)", like, 1, 0, 2, 0, 3, 0);
        like.drop(1);
        due("just three", like.best(3), 0);
        dueResults("just three", like, 2, 0, 3, 0, 4, 0);
        like.drop(2);
        due("fewer than 3", like.best(3), -1);
        like.drop(3);
        due("fewer than 2", like.best(2), -1);
        due("just one", like.best(1), 0);
        like.drop(4);
        due("fewer than 1", like.best(1), -1);
        NearBook far = told(2, 100000);
        due("the greatest radius", far.best(1), 100000);
        dueResults("the greatest radius", far, 0, 0);
    }

    private static void chainAndPair() {
        promise = 19;
        NearBook x = line(9, 0, 6, 3, 20);
        due("chain(0)", x.chain(0), 4);
        due("chain(1)", x.chain(1), 20);
        due("chain(2)", x.chain(2), -1);
        due("chain(-1)", x.chain(-1), -1);
        due("chain(least)", x.chain(LEAST), -1);
        promise = 20;
        duePairs("of a line", x, 0, 2, 3, 1, 3, 3, 2, 3, 3, 0, 4, 11);
        due("pair(-1, 0)", x.pair(-1, 0), -1);
        due("pair(least, 0)", x.pair(LEAST, 0), -1);
        due("pair(most, 0)", x.pair(MOST, 0), -1);
        due("pair(0, 3)", x.pair(0, 3), -1);
        due("pair(0, -1)", x.pair(0, -1), -1);
        due("pair(0, most)", x.pair(0, MOST), -1);
        NearBook like = line(5, 5, 5, 5);
        duePairs("of like ones", like, 0, 1, 0, 0, 2, 0, 0, 3, 0);
        // A ring of like sides: the side that closes it is the last in the order.
        duePairs("of a ring", told(4, 2, 4, 2, 2, 4, 2), 0, 1, 2, 0, 3, 2, 1, 2, 2);
        promise = 19;
        NearBook far = told(3, 100000, 100000, 100000);
        due("far ones", far.chain(1), 200000);
        far.drop(1);
        due("after drop()", far.chain(0), 1);
        duePairs("after drop()", far, 0, 2, 100000);
        far.drop(0);
        due("of one", far.chain(0), 0);
        due("of one", far.chain(1), 0);
        due("pair(0, 0) of one", far.pair(0, 0), -1);
        far.drop(2);
        due("of none", far.chain(0), 0);
        due("of none", far.chain(1), 0);
    }

    private static void duePairs(String call, NearBook x, int... parts) {
        int size = parts.length / 3;
        due(call + " chain(0)", x.chain(0), size);
        for (int i = 0; i < size; i++) {
            for (int what = 0; what < 3; what++) {
                due(call + " pair(" + i + ", " + what + ")", x.pair(i, what), parts[3 * i + what]);
            }
        }
        due(call + " pair behind the end", x.pair(size, 0), -1);
    }

    private static void clusters() {
        promise = 21;
        NearBook x = line(30, 0, 12, 33, 8, 4, 27);
        due("clusters(0)", x.clusters(0), 7);
        due("clusters(2)", x.clusters(2), 7);
        due("clusters(3)", x.clusters(3), 5);
        due("clusters(4)", x.clusters(4), 2);
        due("clusters(14)", x.clusters(14), 2);
        due("clusters(15)", x.clusters(15), 1);
        due("clusters(most)", x.clusters(MOST), 1);
        due("clusters(-1)", x.clusters(-1), -1);
        due("clusters(least)", x.clusters(LEAST), -1);
        promise = 22;
        due("cluster(2, 4)", x.cluster(2, 4), 1);
        due("cluster(4, 4)", x.cluster(4, 4), 1);
        due("cluster(5, 4)", x.cluster(5, 4), 1);
        due("cluster(1, 4)", x.cluster(1, 4), 1);
        due("cluster(6, 4)", x.cluster(6, 4), 0);
        due("cluster(3, 3)", x.cluster(3, 3), 0);
        due("cluster(3, 2)", x.cluster(3, 2), 3);
        due("cluster(6, 15)", x.cluster(6, 15), 0);
        due("cluster(6, -1)", x.cluster(6, -1), -1);
        due("cluster(7, 4)", x.cluster(7, 4), -1);
        due("cluster(-1, 4)", x.cluster(-1, 4), -1);
        due("cluster(least, 4)", x.cluster(LEAST, 4), -1);
        due("cluster(most, 4)", x.cluster(MOST, 4), -1);
        x.drop(0);
        due("not in the book", x.cluster(0, 4), -1);
        due("without what held them", x.cluster(6, 4), 6);
        due("without what held them", x.cluster(3, 4), 3);
        NearBook pair = line(0, 8, 5, 8);
        due("by 0, like ones", pair.cluster(3, 0), 1);
        due("by 0, alone", pair.cluster(2, 0), 2);
        due("all in one", pair.cluster(1, 9), 0);
        pair.drop(0);
        pair.drop(2);
        due("of two", pair.cluster(3, 0), 1);
        due("the lowest of two", pair.cluster(1, 0), 1);
        pair.value(3, 0, 9);
        due("of two apart", pair.cluster(3, 0), 3);
        due("the lowest of two apart", pair.cluster(1, 0), 1);
        due("of two not too far apart", pair.cluster(3, 1), 1);
        promise = 21;
        due("like ones", line(5, 5, 5).clusters(0), 1);
        due("of an empty book", new NearBook().clusters(0), 0);
    }

    private static void net() {
        promise = 23;
        NearBook x = line(5, 0, 10, 3, 8, 11);
        due("net(0)", x.net(0), 6);
        dueResults("net(0)", x, 0, 0, 1, 0, 2, 0, 3, 0, 4, 0, 5, 0);
        due("net(2)", x.net(2), 3);
        dueResults("net(2)", x, 0, 0, 1, 0, 2, 0);
        due("net(4)", x.net(4), 3);
        due("net(5)", x.net(5), 2);
        dueResults("net(5)", x, 0, 0, 5, 0);
        due("net(most)", x.net(MOST), 1);
        dueResults("net(most)", x, 0, 0);
        due("net(-1)", x.net(-1), -1);
        due("net(least)", x.net(LEAST), -1);
        due("RESULTS stay", x.count(3), 1);
        x.drop(0);
        due("from the lowest in the book", x.net(MOST), 1);
        dueResults("from the lowest in the book", x, 1, 0);
        due("like ones", line(5, 5, 5).net(0), 1);
        NearBook empty = line(3);
        empty.net(0);
        empty.drop(0);
        due("of an empty book", empty.net(0), 0);
        dueResults("of an empty book", empty);
    }

    private static void middle() {
        promise = 24;
        NearBook x = line(100, 0, 10, 12, 50);
        due("middle(0)", x.middle(0), 3);
        due("middle(1)", x.middle(1), 140);
        due("middle(2)", x.middle(2), -1);
        due("middle(-1)", x.middle(-1), -1);
        due("middle(most)", x.middle(MOST), -1);
        due("the second", line(0, 10, 20).middle(0), 1);
        x.drop(3);
        due("like ones, the lowest", x.middle(0), 2);
        due("like ones, the lowest", x.middle(1), 140);
        NearBook like = line(5, 9, 5);
        like.drop(1);
        due("like ones", like.middle(0), 0);
        due("like ones", like.middle(1), 0);
        like.drop(0);
        due("of one", like.middle(0), 2);
        like.drop(2);
        due("of none", like.middle(0), -1);
        due("of none", like.middle(1), -1);
    }

    private static void count() {
        promise = 25;
        NearBook x = line(4, 9, 40);
        row(x, 1, 2, 3, 4, 5, 6, 7, 900);
        x.within(0, 5);
        due("count(0)", x.count(0), 4);
        due("count(1)", x.count(1), 3);
        due("count(2)", x.count(2), 2);
        due("count(3)", x.count(3), 2);
        due("count(4)", x.count(4), 36);
        for (int what = 5; what < 10; what++) {
            due("count(" + what + ")", x.count(what), -1);
        }
        due("count(10)", x.count(10), 1);
        due("count(13)", x.count(13), 8);
        due("count(14)", x.count(14), -1);
        due("count(70)", x.count(70), -1);
        due("count(-1)", x.count(-1), -1);
        due("count(most)", x.count(MOST), -1);
        for (int what = 0; what < 20; what++) {
            due("count(least + " + what + ")", x.count(LEAST + what), -1);
        }
        x.drop(0);
        due("count(4) of two", x.count(4), 31);
        x.drop(1);
        due("count(4) of one", x.count(4), 0);
        x.drop(2);
        due("count(4) of none", x.count(4), 0);
        NearBook broken = told(3, 1, 1, 9);
        due("count(4) without the law", broken.count(4), -1);
        broken.drop(0);
        broken.drop(1);
        broken.drop(2);
        due("count(4) of none without the law", broken.count(4), -1);
        due("count(1) without the law", broken.count(1), 0);
    }

    private static void lawGuardsSearches() {
        NearBook x = told(4, 5, 5, 5, 5, 5, 5);
        x.nearest(3, 2);
        x.tell(2, 3, 11);
        x.drop(3);
        promise = 12;
        due("nearest without the law", x.nearest(0, 1), -1);
        promise = 13;
        due("within without the law", x.within(0, 9), -1);
        promise = 14;
        due("farthest without the law", x.farthest(0, 1), -1);
        promise = 16;
        due("closest without the law", x.closest(0), -1);
        promise = 17;
        due("centres without the law", x.centres(1), -1);
        promise = 18;
        due("best without the law", x.best(1), -1);
        promise = 19;
        due("chain(0) without the law", x.chain(0), -1);
        due("chain(1) without the law", x.chain(1), -1);
        promise = 20;
        due("pair without the law", x.pair(0, 0), -1);
        promise = 21;
        due("clusters without the law", x.clusters(9), -1);
        promise = 22;
        due("cluster without the law", x.cluster(0, 9), -1);
        promise = 23;
        due("net without the law", x.net(0), -1);
        promise = 24;
        due("middle without the law", x.middle(0), -1);
        promise = 25;
        due("count(4) without the law", x.count(4), -1);
        promise = 15;
        dueResults("RESULTS stay", x, 3, 0, 0, 5);
        x.kind(0);
        promise = 12;
        due("nearest by another kind", x.nearest(0, 1), 1);
        x.kind(5);
        x.tell(2, 3, 10);
        due("nearest with the law again", x.nearest(3, 3), 3);
        dueResults("nearest with the law again", x, 0, 5, 1, 5, 2, 10);
    }

    private static void refusedCallsKeepResults() {
        promise = 15;
        NearBook x = line(1, 5);
        x.centres(2);
        x.nearest(9, 1);
        x.nearest(0, 0);
        x.within(0, -1);
        x.farthest(0, 61);
        x.centres(0);
        x.best(3);
        x.net(-1);
        x.value(0, 1, 1);
        x.tell(0, 0, 1);
        x.kind(7);
        x.put(0);
        x.drop(2);
        dueResults("RESULTS stay", x, 0, 0, 1, 4);
        due("count(1)", x.count(1), 2);
        due("count(2)", x.count(2), 2);
        due("distance(0, 1)", x.distance(0, 1), 4);
    }

    /** Sixty things in the book: every row is used to its end. */
    private static void fullBook() {
        NearBook x = new NearBook();
        x.kind(2);
        for (int t = 0; t < 60; t++) {
            row(x, t * 7 % 60);
        }
        for (int t = 59; t >= 0; t--) {
            x.put(t);
        }
        promise = 12;
        due("nearest(0, 60)", x.nearest(0, 60), 60);
        due("result(59, 1)", x.result(59, 1), 59);
        due("result(60, 0)", x.result(60, 0), -1);
        promise = 13;
        due("within(0, 59)", x.within(0, 59), 60);
        promise = 14;
        due("farthest(0, 60)", x.farthest(0, 60), 60);
        due("result(59, 0)", x.result(59, 0), 0);
        promise = 17;
        due("centres(60)", x.centres(60), 0);
        due("result(59, 1)", x.result(59, 1), 1);
        due("centres(59)", x.centres(59), 1);
        promise = 18;
        due("best(3)", x.best(3), 10);
        due("best(2)", x.best(2), 15);
        due("best(1)", x.best(1), 30);
        promise = 19;
        due("chain(0)", x.chain(0), 59);
        due("chain(1)", x.chain(1), 59);
        promise = 20;
        due("pair(58, 2)", x.pair(58, 2), 1);
        due("pair(59, 2)", x.pair(59, 2), -1);
        promise = 21;
        due("clusters(0)", x.clusters(0), 60);
        due("clusters(1)", x.clusters(1), 1);
        promise = 22;
        due("cluster(59, 1)", x.cluster(59, 1), 0);
        promise = 23;
        due("net(0)", x.net(0), 60);
        due("net(58)", x.net(58), 2);
        due("net(59)", x.net(59), 1);
        promise = 24;
        due("middle(1)", x.middle(1), 900);
        promise = 25;
        due("count(4)", x.count(4), 59);
        fullTable(x);
        promise = 9;
        due("put(60)", x.put(60), false);
        promise = 10;
        due("drop(59)", x.drop(59), true);
        due("put(59)", x.put(59), true);
        due("count(1)", x.count(1), 60);
    }

    private static void fullTable(NearBook x) {
        x.kind(5);
        promise = 7;
        due("law() of sixty", x.law(), 1);
        x.tell(58, 59, 1);
        due("law() of sixty, broken", x.law(), 0);
        promise = 8;
        dueThree("the last side", x, 58, 0, 59);
        for (int t = 0; t < 59; t++) {
            x.tell(59, t, 100000);
        }
        promise = 7;
        due("law() of sixty, the last apart", x.law(), 1);
        promise = 19;
        due("chain(1)", x.chain(1), 100000);
        promise = 24;
        due("middle(0)", x.middle(0), 0);
        due("middle(1)", x.middle(1), 100000);
        x.drop(59);
        x.drop(58);
        due("middle(1) of like ones", x.middle(1), 0);
        x.put(59);
        x.put(58);
        x.kind(2);
    }
}
