import java.math.BigInteger;

/** The edges of promises 20 and 23 to 26: rows that may stand, the word in rows, unlike stretches, what is told. */
public final class FarEdgesTest {
    private static final int NONE = -1, UNKNOWN = -101, OUTSIDE = -102, STATE = -103;
    private static final int MIN = Integer.MIN_VALUE, MAX = Integer.MAX_VALUE;
    private static final Edges EDGES = new Edges();

    public static void main(String[] args) {
        EDGES.test("20: g 2, n 0 to 14", FarEdgesTest::manyOfTwo);
        EDGES.test("20: g 3, n 0 to 9", FarEdgesTest::manyOfThree);
        EDGES.test("20: g 2, n -1 and 15", FarEdgesTest::manyOfTwoOutside);
        EDGES.test("20: g 3, n -1 and 10", FarEdgesTest::manyOfThreeOutside);
        EDGES.test("20: g 1 and 4", FarEdgesTest::manyOfOthersOutside);
        EDGES.test("20: the 10th time, and the 11th", FarEdgesTest::manyTenTimes);
        EDGES.test("20: a refused call was not done", FarEdgesTest::manyRefusedIsNotDone);
        EDGES.test("20: OUTSIDE is told before STATE", FarEdgesTest::manyOutsideFirst);
        EDGES.test("23: from place k itself on", FarEdgesTest::findFromK);
        EDGES.test("23: all of it within the first n numbers", FarEdgesTest::findWithinN);
        EDGES.test("23: k 0 and 100000", FarEdgesTest::findFromFirstAndLastPlace);
        EDGES.test("23: n 0 and 100000", FarEdgesTest::findWithinNoneAndMost);
        EDGES.test("23: k and n that are not 0 to 100000", FarEdgesTest::findOutside);
        EDGES.test("23: the empty word", FarEdgesTest::findEmpty);
        EDGES.test("23: a word of 60 letters", FarEdgesTest::findFull);
        EDGES.test("23: the first row and the last one", FarEdgesTest::findInFirstAndLastRow);
        EDGES.test("23: rows that are not there, told before OUTSIDE", FarEdgesTest::findInNoRow);
        EDGES.test("24: m 1 and 20", FarEdgesTest::unlikeShortestAndLongest);
        EDGES.test("24: m 0 and 21", FarEdgesTest::unlikeTooShortAndTooLong);
        EDGES.test("24: n 0 and 2000", FarEdgesTest::unlikeWithinNoneAndMost);
        EDGES.test("24: n -1 and 2001", FarEdgesTest::unlikeWithinTooFewAndTooMany);
        EDGES.test("24: n as great as m, and less", FarEdgesTest::unlikeWithinOneStretch);
        EDGES.test("24: the last letter of a stretch, and the first one, tell it from others", FarEdgesTest::unlikeAtEnds);
        EDGES.test("24: the 40th time, and the 41st", FarEdgesTest::unlikeFortyTimes);
        EDGES.test("24: a refused call was not done", FarEdgesTest::unlikeRefusedIsNotDone);
        EDGES.test("24: UNKNOWN, then OUTSIDE, then STATE", FarEdgesTest::unlikeRefusalsInOrder);
        EDGES.test("25: what 0 and 7", FarEdgesTest::toldFirstAndLast);
        EDGES.test("25: what -1 and 8", FarEdgesTest::toldOutside);
        EDGES.test("25: the least and the most that is told", FarEdgesTest::toldLeastAndMost);
        EDGES.test("26: the digest of a new object, and the first that wraps", FarEdgesTest::digestWraps);
        EDGES.test("26: alphabets and rows as long as they are", FarEdgesTest::digestOfShortAndLong);
        EDGES.test("26: a word of 60 letters", FarEdgesTest::digestOfFullWord);
        EDGES.test("26: what was done most often", FarEdgesTest::digestOfMostDone);
        EDGES.end();
    }

    private static void manyOfTwo() {
        int[] due = {1, 2, 4, 6, 10, 14, 18, 26, 34, 42, 50, 62, 78, 94, 110};
        for (int n = 0; n <= 14; n++) EDGES.due("many(" + n + ", 2)", new SelfRows().many(n, 2), due[n]);
    }

    private static void manyOfThree() {
        int[] due = {1, 3, 9, 27, 78, 228, 570, 1560, 4236, 11580};
        for (int n = 0; n <= 9; n++) EDGES.due("many(" + n + ", 3)", new SelfRows().many(n, 3), due[n]);
    }

    private static void manyOfTwoOutside() {
        int[] wrong = {-1, MIN, 15, 16, MAX};
        for (int n : wrong) EDGES.refused("many(" + n + ", 2)", x -> x.many(n, 2), OUTSIDE);
    }

    private static void manyOfThreeOutside() {
        int[] wrong = {-1, MIN, 10, 11, 14, 15, MAX};
        for (int n : wrong) EDGES.refused("many(" + n + ", 3)", x -> x.many(n, 3), OUTSIDE);
    }

    private static void manyOfOthersOutside() {
        int[] wrong = {1, 0, -1, MIN, 4, 5, 6, 7, MAX};
        for (int g : wrong) {
            EDGES.refused("many(0, " + g + ")", x -> x.many(0, g), OUTSIDE);
            EDGES.refused("many(5, " + g + ")", x -> x.many(5, g), OUTSIDE);
            EDGES.refused("many(-1, " + g + ")", x -> x.many(-1, g), OUTSIDE);
        }
    }

    /** Many() has been done so often, with one n as with another. */
    private static SelfRows afterMany(int times) {
        SelfRows x = Edges.with("35");
        for (int i = 0; i < times; i++) x.many(i % 4, 2 + i % 2);
        return x;
    }

    private static void manyTenTimes() {
        for (int n = 0; n <= 14; n += 14) {
            SelfRows x = afterMany(9);
            EDGES.due("told(2) behind nine times", x.told(2), 9);
            EDGES.due("the 10th time: many(" + n + ", 2)", x.many(n, 2), n == 0 ? 1 : 110);
            EDGES.due("told(2) behind ten times", x.told(2), 10);
            EDGES.due("the 11th time: many(" + n + ", 2)", x.many(n, 2), STATE);
            EDGES.due("told(2) behind the 11th", x.told(2), 10);
        }
        EDGES.refused("the 11th time: many(0, 2)", afterMany(10), x -> x.many(0, 2), STATE);
        EDGES.refused("the 11th time: many(14, 2)", afterMany(10), x -> x.many(14, 2), STATE);
        EDGES.refused("the 11th time: many(9, 3)", afterMany(10), x -> x.many(9, 3), STATE);
        SelfRows x = afterMany(10);
        x.clear();
        x.alphabet(0, 2, 2, 1, 0, 0);
        x.ring(1, 0, 0, 0);
        EDGES.due("ever: many(1, 2)", x.many(1, 2), STATE);
    }

    private static void manyRefusedIsNotDone() {
        SelfRows x = new SelfRows();
        for (int i = 0; i < 20; i++) EDGES.due("many(15, 2)", x.many(15, 2), OUTSIDE);
        for (int i = 0; i < 10; i++) EDGES.due("many(2, 2)", x.many(2, 2), 4);
        EDGES.due("many(2, 2), the 11th time", x.many(2, 2), STATE);
    }

    private static void manyOutsideFirst() {
        int[][] wrong = {{-1, 2}, {15, 2}, {-1, 3}, {10, 3}, {0, 1}, {0, 4}, {5, MIN}, {5, MAX}};
        for (int[] p : wrong) {
            EDGES.refused("ten times done: many(" + p[0] + ", " + p[1] + ")", afterMany(10), x -> x.many(p[0], p[1]), OUTSIDE);
        }
    }

    private static void dueFound(SelfRows x, int row, int k, int n, int want) {
        EDGES.due("find(" + row + ", " + k + ", " + n + ")", x.find(row, k, n), want);
    }

    /** 122112122122112..: 2112 stands from 2 on and from 11 on. */
    private static void findFromK() {
        SelfRows x = Edges.with("2112");
        dueFound(x, 0, 0, 60, 2);
        dueFound(x, 0, 1, 60, 2);
        dueFound(x, 0, 2, 60, 2);
        dueFound(x, 0, 3, 60, 11);
        dueFound(x, 0, 11, 60, 11);
        x = Edges.with("1");
        dueFound(x, 0, 0, 60, 0);
        dueFound(x, 0, 1, 60, 3);
    }

    private static void findWithinN() {
        SelfRows x = Edges.with("2112");
        dueFound(x, 0, 0, 6, 2);
        dueFound(x, 0, 0, 5, NONE);
        dueFound(x, 0, 2, 6, 2);
        dueFound(x, 0, 3, 6, NONE);
        dueFound(x, 0, 3, 15, 11);
        dueFound(x, 0, 3, 14, NONE);
        dueFound(x, 0, 11, 15, 11);
        dueFound(x, 0, 12, 15, NONE);
        dueFound(x, 0, 60, 15, NONE);
    }

    private static void findFromFirstAndLastPlace() {
        SelfRows x = Edges.with("1");
        dueFound(x, 0, 0, 1, 0);
        dueFound(x, 0, 100000, 100000, NONE);
        dueFound(x, 0, 100000, 0, NONE);
        // Number 99999 is a 2, number 100000 a 1: it is not among the first 100000.
        dueFound(x, 0, 99999, 100000, NONE);
        dueFound(Edges.with("2"), 0, 99999, 100000, 99999);
        dueFound(Edges.with("2"), 0, 100000, 100000, NONE);
        dueFound(Edges.with("21"), 0, 99999, 100000, NONE);
    }

    private static void findWithinNoneAndMost() {
        dueFound(Edges.with("1"), 0, 0, 0, NONE);
        dueFound(Edges.with("2"), 0, 0, 1, NONE);
        dueFound(Edges.with("2"), 0, 0, 2, 1);
        dueFound(Edges.with("3"), 0, 0, 100000, NONE);
        dueFound(Edges.with("22"), 0, 99998, 100000, 99998);
        dueFound(Edges.with("22"), 0, 99998, 99999, NONE);
        dueFound(Edges.with("22"), 0, 99999, 100000, NONE);
    }

    private static void findOutside() {
        for (int far : Edges.TOO_FAR) {
            EDGES.refused("find(0, " + far + ", 60)", x -> x.find(0, far, 60), OUTSIDE);
            EDGES.refused("find(1, 0, " + far + ")", x -> x.find(1, 0, far), OUTSIDE);
            EDGES.refused("find(1, " + far + ", " + far + ")", x -> x.find(1, far, far), OUTSIDE);
            EDGES.refused("nothing: find(0, " + far + ", 60)", new SelfRows(), x -> x.find(0, far, 60), OUTSIDE);
            EDGES.refused("nothing: find(0, 0, " + far + ")", new SelfRows(), x -> x.find(0, 0, far), OUTSIDE);
        }
    }

    /** It stands at each place that has no more than n numbers before it. */
    private static void findEmpty() {
        SelfRows x = new SelfRows();
        dueFound(x, 0, 0, 0, 0);
        dueFound(x, 0, 0, 60, 0);
        dueFound(x, 0, 60, 60, 60);
        dueFound(x, 0, 61, 60, NONE);
        dueFound(x, 0, 100000, 100000, 100000);
        dueFound(x, 0, 100000, 99999, NONE);
        dueFound(x, 0, 1, 0, NONE);
    }

    private static void findFull() {
        SelfRows x = Edges.with(Edges.FIRST);
        dueFound(x, 0, 0, 60, 0);
        dueFound(x, 0, 0, 59, NONE);
        dueFound(x, 0, 1, 60, NONE);
        x.take(0, 99940, 60);
        dueFound(x, 0, 99940, 100000, 99940);
        dueFound(x, 0, 99940, 99999, NONE);
        dueFound(x, 0, 99941, 100000, NONE);
        x.take(0, 99941, 60);
        dueFound(x, 0, 99941, 100000, NONE);
        dueFound(x, 0, 99942, 100000, NONE);
        // Unlike the row's beginning in the last letter alone, and in the first alone.
        dueFound(Edges.with(Edges.FIRST.substring(0, 59) + "3"), 0, 0, 100000, NONE);
        dueFound(Edges.with("3" + Edges.FIRST.substring(1)), 0, 0, 100000, NONE);
    }

    /** Row 0 is 111113333.., row 1 is 54654666555.. */
    private static void findInFirstAndLastRow() {
        SelfRows x = Edges.used();
        x.clear();
        x.add(3);
        dueFound(x, 0, 0, 100, 5);
        dueFound(x, 1, 0, 100000, NONE);
        x.clear();
        x.add(4);
        x.add(6);
        dueFound(x, 1, 0, 100, 1);
        dueFound(x, 1, 2, 100, 4);
        dueFound(x, 0, 0, 100000, NONE);
    }

    private static void findInNoRow() {
        for (int row : Edges.NO_ROWS) {
            EDGES.refused("find(" + row + ", 0, 60)", x -> x.find(row, 0, 60), UNKNOWN);
            EDGES.refused("find(" + row + ", -1, 60)", x -> x.find(row, -1, 60), UNKNOWN);
            EDGES.refused("find(" + row + ", 100001, 60)", x -> x.find(row, 100001, 60), UNKNOWN);
            EDGES.refused("find(" + row + ", 0, -1)", x -> x.find(row, 0, -1), UNKNOWN);
            EDGES.refused("find(" + row + ", 0, 100001)", x -> x.find(row, 0, 100001), UNKNOWN);
        }
    }

    private static void dueUnlike(int m, int n, int want) {
        EDGES.due("unlike(0, " + m + ", " + n + ")", new SelfRows().unlike(0, m, n), want);
    }

    private static void unlikeShortestAndLongest() {
        dueUnlike(1, 60, 2);
        dueUnlike(1, 2000, 2);
        dueUnlike(20, 60, 41);
        dueUnlike(20, 2000, 250);
        dueUnlike(19, 2000, 218);
        dueUnlike(2, 2000, 4);
    }

    private static void unlikeTooShortAndTooLong() {
        int[] wrong = {0, -1, MIN, 21, 22, 63, MAX};
        for (int m : wrong) {
            EDGES.refused("unlike(0, " + m + ", 60)", x -> x.unlike(0, m, 60), OUTSIDE);
            EDGES.refused("unlike(1, " + m + ", 0)", x -> x.unlike(1, m, 0), OUTSIDE);
        }
    }

    private static void unlikeWithinNoneAndMost() {
        dueUnlike(1, 0, 0);
        dueUnlike(20, 0, 0);
        dueUnlike(7, 2000, 26);
        // The last stretch of 10, and of 20, that ends with number 1999 has not stood before.
        SelfRows x = new SelfRows();
        x.alphabet(0, 3, 1, 2, 6, 0);
        EDGES.due("1, 2, 6: unlike(0, 10, 1999)", x.unlike(0, 10, 1999), 134);
        EDGES.due("1, 2, 6: unlike(0, 10, 2000)", x.unlike(0, 10, 2000), 135);
        EDGES.due("1, 2, 6: unlike(0, 20, 1999)", x.unlike(0, 20, 1999), 392);
        EDGES.due("1, 2, 6: unlike(0, 20, 2000)", x.unlike(0, 20, 2000), 393);
    }

    private static void unlikeWithinTooFewAndTooMany() {
        int[] wrong = {-1, -2, MIN, 2001, 2002, 100000, 100001, MAX};
        for (int n : wrong) {
            EDGES.refused("unlike(0, 5, " + n + ")", x -> x.unlike(0, 5, n), OUTSIDE);
            EDGES.refused("unlike(1, 20, " + n + ")", x -> x.unlike(1, 20, n), OUTSIDE);
        }
    }

    private static void unlikeWithinOneStretch() {
        for (int m = 1; m <= 20; m++) {
            SelfRows x = new SelfRows();
            EDGES.due("unlike(0, " + m + ", one less)", x.unlike(0, m, m - 1), 0);
            EDGES.due("unlike(0, " + m + ", as many)", x.unlike(0, m, m), 1);
        }
        // 1 2 2: the first two letters are like the last two for m 1 alone.
        dueUnlike(1, 3, 2);
        dueUnlike(2, 3, 2);
        dueUnlike(20, 21, 2);
    }

    /** 12, 22, 21, 11, 12, 21: the second differs from the first by its first letter, the third by its last. */
    private static void unlikeAtEnds() {
        int[] due = {1, 2, 3, 4, 4, 4};
        for (int i = 0; i < due.length; i++) dueUnlike(2, i + 2, due[i]);
        // 666666 111111 666666 111111 ..: twelve unlike stretches of 6, round and round
        SelfRows x = new SelfRows();
        x.alphabet(0, 2, 6, 1, 0, 0);
        EDGES.due("6, 1: unlike(0, 6, 7)", x.unlike(0, 6, 7), 2);
        EDGES.due("6, 1: unlike(0, 6, 12)", x.unlike(0, 6, 12), 7);
        EDGES.due("6, 1: unlike(0, 6, 24)", x.unlike(0, 6, 24), 12);
        EDGES.due("6, 1: unlike(0, 6, 25)", x.unlike(0, 6, 25), 12);
    }

    /** Unlike() has been done so often, for one row as for another. */
    private static SelfRows afterUnlike(int times) {
        SelfRows x = Edges.with("35");
        x.ring(2, 0, 1, 0);
        for (int i = 0; i < times; i++) x.unlike(i % 2, 1 + i % 20, 3 * i);
        return x;
    }

    private static void unlikeFortyTimes() {
        for (int n = 0; n <= 2000; n += 2000) {
            SelfRows x = afterUnlike(39);
            EDGES.due("told(3) behind 39 times", x.told(3), 39);
            EDGES.due("the 40th time: unlike(0, 7, " + n + ")", x.unlike(0, 7, n), n == 0 ? 0 : 26);
            EDGES.due("told(3) behind 40 times", x.told(3), 40);
            EDGES.due("the 41st time: unlike(0, 7, " + n + ")", x.unlike(0, 7, n), STATE);
            EDGES.due("told(3) behind the 41st", x.told(3), 40);
        }
        EDGES.refused("the 41st time: unlike(0, 1, 0)", afterUnlike(40), x -> x.unlike(0, 1, 0), STATE);
        EDGES.refused("the 41st time: unlike(1, 20, 2000)", afterUnlike(40), x -> x.unlike(1, 20, 2000), STATE);
        SelfRows x = afterUnlike(40);
        x.clear();
        x.alphabet(0, 2, 2, 1, 0, 0);
        x.ring(1, 0, 0, 0);
        EDGES.due("ever: unlike(0, 2, 5)", x.unlike(0, 2, 5), STATE);
        EDGES.due("many() is counted alone", x.many(1, 2), 2);
    }

    private static void unlikeRefusedIsNotDone() {
        SelfRows x = new SelfRows();
        for (int i = 0; i < 50; i++) {
            EDGES.due("unlike(1, 2, 4)", x.unlike(1, 2, 4), UNKNOWN);
            EDGES.due("unlike(0, 21, 4)", x.unlike(0, 21, 4), OUTSIDE);
        }
        for (int i = 0; i < 40; i++) EDGES.due("unlike(0, 2, 4)", x.unlike(0, 2, 4), 3);
        EDGES.due("unlike(0, 2, 4), the 41st time", x.unlike(0, 2, 4), STATE);
    }

    private static void unlikeRefusalsInOrder() {
        for (int row : Edges.NO_ROWS) {
            EDGES.refused("unlike(" + row + ", 5, 60)", x -> x.unlike(row, 5, 60), UNKNOWN);
            EDGES.refused("unlike(" + row + ", 0, 60)", x -> x.unlike(row, 0, 60), UNKNOWN);
            EDGES.refused("unlike(" + row + ", 21, 60)", x -> x.unlike(row, 21, 60), UNKNOWN);
            EDGES.refused("unlike(" + row + ", 5, -1)", x -> x.unlike(row, 5, -1), UNKNOWN);
            EDGES.refused("unlike(" + row + ", 5, 2001)", x -> x.unlike(row, 5, 2001), UNKNOWN);
            EDGES.refused("40 times done: unlike(" + row + ", 5, 60)", afterUnlike(40), x -> x.unlike(row, 5, 60), UNKNOWN);
        }
        int[][] wrong = {{0, 60}, {21, 60}, {5, -1}, {5, 2001}};
        for (int[] p : wrong) {
            EDGES.refused("40 times done: unlike(0, " + p[0] + ", " + p[1] + ")", afterUnlike(40), x -> x.unlike(0, p[0], p[1]), OUTSIDE);
        }
    }

    private static void toldFirstAndLast() {
        SelfRows x = new SelfRows();
        x.ring(3, 0, 0, 0);
        x.alphabet(3, 4, 1, 2, 3, 4);
        EDGES.due("told(0)", x.told(0), 3);
        EDGES.due("told(7)", x.told(7), 4);
        EDGES.due("told(4)", x.told(4), 2);
    }

    private static void toldOutside() {
        int[] wrong = {-1, -2, MIN, MIN + 3, MIN + 4, 8, 9, MAX};
        for (int what : wrong) EDGES.refused("told(" + what + ")", x -> x.told(what), OUTSIDE);
    }

    private static void dueTold(String name, SelfRows x, int... due) {
        for (int what = 0; what < due.length; what++) EDGES.due(name + ": told(" + what + ")", x.told(what), due[what]);
    }

    private static void toldLeastAndMost() {
        dueTold("new", new SelfRows(), 1, 0, 0, 0, 2, 2, 2, 2);
        SelfRows x = Edges.with("4".repeat(60));
        x.ring(3, 0, 0, 0);
        for (int a = 0; a <= 3; a++) x.alphabet(a, 4, 1, 2, 3, 4);
        for (int i = 0; i < 11; i++) x.many(2, 2);
        for (int i = 0; i < 41; i++) x.unlike(2, 2, 4);
        dueTold("full", x, 3, 60, 10, 40, 4, 4, 4, 4);
    }

    /** The digest of these numbers, by arithmetic that has no bounds, cut to 64 bits at the end alone. */
    private static long digestOf(int... numbers) {
        BigInteger h = BigInteger.valueOf(163);
        for (int number : numbers) h = h.multiply(BigInteger.valueOf(31)).add(BigInteger.valueOf(number));
        return h.longValue();
    }

    /** Eleven numbers fit into a long; the twelfth is the first that makes it wrap. */
    private static void digestWraps() {
        EDGES.due("digest() of a new object", new SelfRows().digest(), 4142455150507300345L);
        EDGES.due("as it is reckoned", digestOf(1, 2, 1, 2, 1, 2, 1, 2, 0, 0, 0), 4142455150507300345L);
        EDGES.due("digest() of 1", Edges.with("1").digest(), -711098850240549656L);
        EDGES.due("as it is reckoned", digestOf(1, 2, 1, 2, 1, 2, 1, 2, 0, 1, 0, 0), -711098850240549656L);
        EDGES.due("digest() of 61", Edges.with("61").digest(), digestOf(1, 2, 1, 2, 1, 2, 1, 2, 0, 6, 1, 0, 0));
    }

    private static void digestOfShortAndLong() {
        SelfRows x = new SelfRows();
        x.ring(3, 3, 0, 2);
        EDGES.due("three rows", x.digest(), digestOf(1, 2, 1, 2, 1, 2, 1, 2, 3, 0, 2, 0, 0));
        x.alphabet(0, 3, 4, 5, 6, 1);
        x.alphabet(3, 4, 6, 5, 6, 1);
        EDGES.due("3 and 4 letters", x.digest(), digestOf(4, 5, 6, 1, 2, 1, 2, 6, 5, 6, 1, 3, 0, 2, 0, 0));
        x.ring(2, 3, 0, 2);
        EDGES.due("two rows", x.digest(), digestOf(4, 5, 6, 1, 2, 1, 2, 6, 5, 6, 1, 3, 0, 0, 0));
        x.ring(1, 3, 0, 2);
        EDGES.due("one row", x.digest(), digestOf(4, 5, 6, 1, 2, 1, 2, 6, 5, 6, 1, 3, 0, 0));
        x.alphabet(0, 2, 4, 5, 6, 1);
        x.alphabet(3, 3, 6, 5, 1, 2);
        EDGES.due("2 and 3 letters again", x.digest(), digestOf(4, 5, 1, 2, 1, 2, 6, 5, 1, 3, 0, 0));
    }

    private static void digestOfFullWord() {
        int[] numbers = new int[8 + 1 + 60 + 2];
        for (int i = 0; i < 8; i++) numbers[i] = 1 + i % 2;
        SelfRows x = new SelfRows();
        for (int i = 0; i < 60; i++) {
            numbers[9 + i] = 1 + i % 6;
            x.add(1 + i % 6);
        }
        EDGES.due("60 letters", x.digest(), digestOf(numbers));
        x.add(1);
        EDGES.due("60 letters, and one refused", x.digest(), digestOf(numbers));
        x.clear();
        EDGES.due("cleared", x.digest(), 4142455150507300345L);
    }

    private static void digestOfMostDone() {
        SelfRows x = new SelfRows();
        for (int i = 0; i < 11; i++) x.many(1, 2);
        EDGES.due("many() ten times", x.digest(), digestOf(1, 2, 1, 2, 1, 2, 1, 2, 0, 10, 0));
        for (int i = 0; i < 41; i++) x.unlike(0, 1, 1);
        EDGES.due("unlike() 40 times", x.digest(), digestOf(1, 2, 1, 2, 1, 2, 1, 2, 0, 10, 40));
    }
}
