/** The edges of promises 4 to 9: what is asked of rows. */
public final class RowEdgesTest {
    private static final int NONE = -1, UNKNOWN = -101, OUTSIDE = -102;
    private static final int MIN = Integer.MIN_VALUE, MAX = Integer.MAX_VALUE;
    private static final Edges EDGES = new Edges();

    public static void main(String[] args) {
        EDGES.test("4: number 0", RowEdgesTest::firstNumber);
        EDGES.test("4: number 100000", RowEdgesTest::lastNumber);
        EDGES.test("4: places that are not 0 to 100000", RowEdgesTest::numbersOutside);
        EDGES.test("4 to 9: the first row and the last one", RowEdgesTest::firstAndLastRow);
        EDGES.test("4 to 9: rows that are not there", RowEdgesTest::noSuchRow);
        EDGES.test("4 to 9: UNKNOWN is told before OUTSIDE", RowEdgesTest::unknownFirst);
        EDGES.test("5: of the first 0 numbers", RowEdgesTest::countOfNone);
        EDGES.test("5: of the first 100000 numbers", RowEdgesTest::countOfMost);
        EDGES.test("5: number n is not among the first n", RowEdgesTest::countWithoutNumberN);
        EDGES.test("5: how many are not 0 to 100000", RowEdgesTest::countsOutside);
        EDGES.test("5: letters 1 and 6, and what is no letter", RowEdgesTest::countOfLeastAndGreatestLetter);
        EDGES.test("6: the first 0 numbers", RowEdgesTest::sumOfNone);
        EDGES.test("6: the first 100000 numbers", RowEdgesTest::sumOfMost);
        EDGES.test("6: number n is not among the first n", RowEdgesTest::sumWithoutNumberN);
        EDGES.test("6: how many are not 0 to 100000", RowEdgesTest::sumsOutside);
        EDGES.test("7: the run of number 0", RowEdgesTest::firstRun);
        EDGES.test("7: the run of number 100000", RowEdgesTest::lastRun);
        EDGES.test("7: the first and the last number of a run", RowEdgesTest::endsOfRuns);
        EDGES.test("7: places that are not 0 to 100000", RowEdgesTest::runsOutside);
        EDGES.test("8: run 0", RowEdgesTest::firstBegins);
        EDGES.test("8: a run that begins at place 100000", RowEdgesTest::beginsAtLastPlace);
        EDGES.test("8: a run that begins behind it", RowEdgesTest::beginsBehindLastPlace);
        EDGES.test("8: run 100000", RowEdgesTest::greatestRunAsked);
        EDGES.test("8: runs that are not 0 to 100000", RowEdgesTest::beginsOutside);
        EDGES.test("9: k and n 0", RowEdgesTest::offOfNone);
        EDGES.test("9: k as great as n", RowEdgesTest::offAtN);
        EDGES.test("9: a greatest difference before n", RowEdgesTest::offBeforeN);
        EDGES.test("9: more than k, and fewer", RowEdgesTest::offAboveAndBelow);
        EDGES.test("9: n 100000", RowEdgesTest::offOfMost);
        EDGES.test("9: n that is not 0 to 100000", RowEdgesTest::offOutside);
        EDGES.test("9: SHARE 2 and 6", RowEdgesTest::leastAndGreatestShare);
        EDGES.test("9: SHARE 1 and 7", RowEdgesTest::sharesOutside);
        EDGES.test("9: letters 1 and 6, and what is no letter", RowEdgesTest::offOfLeastAndGreatestLetter);
        EDGES.end();
    }

    /** One row with letters v and w. */
    private static SelfRows rowOf(int v, int w) {
        SelfRows x = new SelfRows();
        x.alphabet(0, 2, v, w, 0, 0);
        return x;
    }

    private static void firstNumber() {
        for (int v = 1; v <= 6; v++) EDGES.due("at(0, 0) of " + v, rowOf(v, v % 6 + 1).at(0, 0), v);
    }

    private static void lastNumber() {
        EDGES.due("1, 2: at(0, 100000)", rowOf(1, 2).at(0, 100000), 1);
        EDGES.due("1, 2: at(0, 99999)", rowOf(1, 2).at(0, 99999), 2);
        EDGES.due("4, 6: at(0, 100000)", rowOf(4, 6).at(0, 100000), 6);
        EDGES.due("4, 6: at(0, 99999)", rowOf(4, 6).at(0, 99999), 4);
        SelfRows x = Edges.used();
        EDGES.due("ring: at(0, 100000)", x.at(0, 100000), 1);
        EDGES.due("ring: at(1, 100000)", x.at(1, 100000), 6);
    }

    private static void numbersOutside() {
        for (int k : Edges.TOO_FAR) {
            EDGES.refused("at(0, " + k + ")", x -> x.at(0, k), OUTSIDE);
            EDGES.refused("at(1, " + k + ")", x -> x.at(1, k), OUTSIDE);
        }
    }

    private static void firstAndLastRow() {
        SelfRows x = new SelfRows();
        x.alphabet(1, 2, 4, 6, 0, 0);
        x.alphabet(2, 2, 2, 1, 0, 0);
        x.alphabet(3, 2, 3, 5, 0, 0);
        x.ring(3, 1, 2, 3);
        // 44 66 44 6 ..; 222 111 222 111 22222 ..; 3333 5555 333333 555555 ..
        int[] first = {4, 2, 3};
        int[] length = {2, 3, 4};
        for (int row = 0; row <= 2; row++) {
            EDGES.due("at(" + row + ", 0)", x.at(row, 0), first[row]);
            EDGES.due("count(" + row + ", its first letter, 4)", x.count(row, first[row], 4), length[row]);
            EDGES.due("sum(" + row + ", 2)", x.sum(row, 2), 2 * first[row]);
            EDGES.due("run(" + row + ", behind run 0)", x.run(row, length[row]), 1);
            EDGES.due("begins(" + row + ", 1)", x.begins(row, 1), length[row]);
            EDGES.due("off(" + row + ", its first letter, 2, its length)", x.off(row, first[row], 2, length[row]), length[row]);
        }
    }

    private static void noSuchRow() {
        for (int row : Edges.NO_ROWS) {
            EDGES.refused("at(" + row + ", 0)", x -> x.at(row, 0), UNKNOWN);
            EDGES.refused("count(" + row + ", 1, 5)", x -> x.count(row, 1, 5), UNKNOWN);
            EDGES.refused("sum(" + row + ", 5)", x -> x.sum(row, 5), UNKNOWN);
            EDGES.refused("run(" + row + ", 5)", x -> x.run(row, 5), UNKNOWN);
            EDGES.refused("begins(" + row + ", 5)", x -> x.begins(row, 5), UNKNOWN);
            EDGES.refused("off(" + row + ", 1, 2, 5)", x -> x.off(row, 1, 2, 5), UNKNOWN);
        }
    }

    private static void unknownFirst() {
        for (int row : Edges.NO_ROWS) {
            for (int far : Edges.TOO_FAR) {
                EDGES.refused("at(" + row + ", " + far + ")", x -> x.at(row, far), UNKNOWN);
                EDGES.refused("count(" + row + ", 0, " + far + ")", x -> x.count(row, 0, far), UNKNOWN);
                EDGES.refused("sum(" + row + ", " + far + ")", x -> x.sum(row, far), UNKNOWN);
                EDGES.refused("run(" + row + ", " + far + ")", x -> x.run(row, far), UNKNOWN);
                EDGES.refused("begins(" + row + ", " + far + ")", x -> x.begins(row, far), UNKNOWN);
                EDGES.refused("off(" + row + ", 0, 2, " + far + ")", x -> x.off(row, 0, 2, far), UNKNOWN);
            }
            EDGES.refused("off(" + row + ", 1, 1, 5)", x -> x.off(row, 1, 1, 5), UNKNOWN);
            EDGES.refused("off(" + row + ", 1, 7, 5)", x -> x.off(row, 1, 7, 5), UNKNOWN);
        }
    }

    private static void countOfNone() {
        EDGES.due("count(0, 1, 0)", new SelfRows().count(0, 1, 0), 0);
        EDGES.due("count(0, 2, 0)", new SelfRows().count(0, 2, 0), 0);
        EDGES.due("count(1, 5, 0) of a ring", Edges.used().count(1, 5, 0), 0);
    }

    private static void countOfMost() {
        EDGES.due("count(0, 1, 100000)", new SelfRows().count(0, 1, 100000), 49972);
        EDGES.due("count(0, 2, 100000)", new SelfRows().count(0, 2, 100000), 50028);
        SelfRows x = Edges.used();
        int all = 0;
        for (int v = 1; v <= 6; v++) all += x.count(1, v, 100000);
        EDGES.due("all letters of the first 100000 of row 1", all, 100000);
    }

    /** The last two of the first 100000 numbers are 2, 2; then comes a 1. */
    private static void countWithoutNumberN() {
        SelfRows x = new SelfRows();
        EDGES.due("count(0, 1, 1)", x.count(0, 1, 1), 1);
        EDGES.due("count(0, 2, 1)", x.count(0, 2, 1), 0);
        EDGES.due("count(0, 2, 2)", x.count(0, 2, 2), 1);
        EDGES.due("count(0, 2, 99999)", x.count(0, 2, 99999), 50027);
        EDGES.due("count(0, 1, 99999)", x.count(0, 1, 99999), 49972);
    }

    private static void countsOutside() {
        for (int n : Edges.TOO_FAR) EDGES.refused("count(1, 4, " + n + ")", x -> x.count(1, 4, n), OUTSIDE);
        for (int n : Edges.TOO_FAR) EDGES.refused("count(0, 0, " + n + ")", x -> x.count(0, 0, n), OUTSIDE);
    }

    private static void countOfLeastAndGreatestLetter() {
        // 1 666666 111111 666666 1 ..
        SelfRows x = rowOf(1, 6);
        EDGES.due("count(0, 1, 20)", x.count(0, 1, 20), 8);
        EDGES.due("count(0, 6, 20)", x.count(0, 6, 20), 12);
        EDGES.due("count(0, 6, 100000)", x.count(0, 6, 100000), 100000 - 49815);
        int[] none = {0, 7, -1, 2, 5, MIN, MAX};
        for (int v : none) EDGES.due("count(0, " + v + ", 100000)", x.count(0, v, 100000), 0);
    }

    private static void sumOfNone() {
        EDGES.due("sum(0, 0)", new SelfRows().sum(0, 0), 0);
        EDGES.due("sum(1, 0) of a ring", Edges.used().sum(1, 0), 0);
    }

    private static void sumOfMost() {
        EDGES.due("1, 2: sum(0, 100000)", rowOf(1, 2).sum(0, 100000), 49972 + 2 * 50028);
        EDGES.due("5, 6: sum(0, 100000)", rowOf(5, 6).sum(0, 100000), 550017);
        EDGES.due("6, 5: sum(0, 100000)", rowOf(6, 5).sum(0, 100000), 549994);
    }

    private static void sumWithoutNumberN() {
        EDGES.due("6, 1: sum(0, 1)", rowOf(6, 1).sum(0, 1), 6);
        EDGES.due("6, 1: sum(0, 6)", rowOf(6, 1).sum(0, 6), 36);
        EDGES.due("6, 1: sum(0, 7)", rowOf(6, 1).sum(0, 7), 37);
        EDGES.due("1, 2: sum(0, 99999)", rowOf(1, 2).sum(0, 99999), 150026);
    }

    private static void sumsOutside() {
        for (int n : Edges.TOO_FAR) EDGES.refused("sum(1, " + n + ")", x -> x.sum(1, n), OUTSIDE);
    }

    private static void firstRun() {
        for (int v = 1; v <= 6; v++) EDGES.due("run(0, 0) of " + v, rowOf(v, v % 6 + 1).run(0, 0), 0);
    }

    private static void lastRun() {
        EDGES.due("1, 2: run(0, 100000)", rowOf(1, 2).run(0, 100000), 66652);
        EDGES.due("1, 2: run(0, 99999)", rowOf(1, 2).run(0, 99999), 66651);
        EDGES.due("5, 6: run(0, 100000)", rowOf(5, 6).run(0, 100000), 18180);
        EDGES.due("5, 6: run(0, 99999)", rowOf(5, 6).run(0, 99999), 18180);
        EDGES.due("5, 6: run(0, 99998)", rowOf(5, 6).run(0, 99998), 18179);
    }

    private static void endsOfRuns() {
        // 1 666666 111111 666666 1 ..
        SelfRows x = rowOf(1, 6);
        int[] places = {1, 6, 7, 12, 13, 18, 19};
        int[] runs = {1, 1, 2, 2, 3, 3, 4};
        for (int i = 0; i < places.length; i++) EDGES.due("run(0, " + places[i] + ")", x.run(0, places[i]), runs[i]);
        // 111111 222222 .. of row 0 of a ring of two: its runs are as long as row 1 says, which has the letters 6, 5
        x.alphabet(0, 2, 1, 2, 0, 0);
        x.alphabet(1, 2, 6, 5, 0, 0);
        x.ring(2, 0, 1, 0);
        EDGES.due("ring: run(0, 5)", x.run(0, 5), 0);
        EDGES.due("ring: run(0, 6)", x.run(0, 6), 1);
        EDGES.due("ring: run(1, 0)", x.run(1, 0), 0);
        EDGES.due("ring: run(1, 1)", x.run(1, 1), 1);
    }

    private static void runsOutside() {
        for (int k : Edges.TOO_FAR) EDGES.refused("run(1, " + k + ")", x -> x.run(1, k), OUTSIDE);
    }

    private static void firstBegins() {
        for (int v = 1; v <= 6; v++) EDGES.due("begins(0, 0) of " + v, rowOf(v, v % 6 + 1).begins(0, 0), 0);
        EDGES.due("begins(1, 0) of a ring", Edges.used().begins(1, 0), 0);
    }

    private static void beginsAtLastPlace() {
        EDGES.due("1, 2: begins(0, 66652)", rowOf(1, 2).begins(0, 66652), 100000);
        EDGES.due("1, 2: begins(0, 66651)", rowOf(1, 2).begins(0, 66651), 99998);
        EDGES.due("6, 2: begins(0, 25000)", rowOf(6, 2).begins(0, 25000), 100000);
        EDGES.due("2, 1: begins(0, 66651)", rowOf(2, 1).begins(0, 66651), 99999);
    }

    /** Behind by 1 (1, 2 and 2, 5), and by more. */
    private static void beginsBehindLastPlace() {
        EDGES.due("1, 2: begins(0, 66653)", rowOf(1, 2).begins(0, 66653), NONE);
        EDGES.due("2, 5: begins(0, 28551)", rowOf(2, 5).begins(0, 28551), 99999);
        EDGES.due("2, 5: begins(0, 28552)", rowOf(2, 5).begins(0, 28552), NONE);
        EDGES.due("6, 2: begins(0, 25001)", rowOf(6, 2).begins(0, 25001), NONE);
        EDGES.due("1, 2: begins(0, 66654)", rowOf(1, 2).begins(0, 66654), NONE);
    }

    private static void greatestRunAsked() {
        EDGES.due("1, 2: begins(0, 100000)", rowOf(1, 2).begins(0, 100000), NONE);
        EDGES.due("6, 5: begins(0, 100000)", rowOf(6, 5).begins(0, 100000), NONE);
        EDGES.due("ring: begins(1, 100000)", Edges.used().begins(1, 100000), NONE);
        EDGES.due("1, 2: begins(0, 99999)", rowOf(1, 2).begins(0, 99999), NONE);
    }

    private static void beginsOutside() {
        for (int j : Edges.TOO_FAR) EDGES.refused("begins(1, " + j + ")", x -> x.begins(1, j), OUTSIDE);
    }

    private static void offOfNone() {
        EDGES.due("off(0, 1, 2, 0)", new SelfRows().off(0, 1, 2, 0), 0);
        EDGES.due("off(0, 1, 6, 0)", new SelfRows().off(0, 1, 6, 0), 0);
        EDGES.due("off(0, 7, 3, 0)", new SelfRows().off(0, 7, 3, 0), 0);
    }

    private static void offAtN() {
        // 1 2 2 1: times 2, 1s are 2 for k 1; 2s are 2 for k 2, 4 for k 3.
        SelfRows x = new SelfRows();
        EDGES.due("off(0, 1, 2, 1)", x.off(0, 1, 2, 1), 1);
        EDGES.due("off(0, 1, 6, 1)", x.off(0, 1, 6, 1), 5);
        EDGES.due("off(0, 2, 6, 1)", x.off(0, 2, 6, 1), 1);
        EDGES.due("off(0, 2, 6, 2)", x.off(0, 2, 6, 2), 4);
        EDGES.due("off(0, 2, 6, 3)", x.off(0, 2, 6, 3), 9);
        // 6666661: at 6 numbers as far off as 30, and number 6 is a 1
        EDGES.due("6, 1: off(0, 6, 6, 5)", rowOf(6, 1).off(0, 6, 6, 5), 25);
        EDGES.due("6, 1: off(0, 6, 6, 6)", rowOf(6, 1).off(0, 6, 6, 6), 30);
        EDGES.due("6, 1: off(0, 6, 6, 7)", rowOf(6, 1).off(0, 6, 6, 7), 30);
        EDGES.due("6, 1: off(0, 1, 2, 6)", rowOf(6, 1).off(0, 1, 2, 6), 6);
    }

    private static void offBeforeN() {
        // 666666 111111 666666 ..: times 2, 6 off at k 6, 0 off at k 12
        EDGES.due("6, 1: off(0, 6, 2, 6)", rowOf(6, 1).off(0, 6, 2, 6), 6);
        EDGES.due("6, 1: off(0, 6, 2, 12)", rowOf(6, 1).off(0, 6, 2, 12), 6);
        EDGES.due("6, 1: off(0, 1, 2, 12)", rowOf(6, 1).off(0, 1, 2, 12), 6);
    }

    private static void offAboveAndBelow() {
        // 1 333 111 333: times 3, 1s are 2 above at k 1, 1 below at k 4, 5 above at k 7; 3s are 1 below at k 1, 5 above at k 4
        EDGES.due("1, 3: off(0, 1, 3, 4)", rowOf(1, 3).off(0, 1, 3, 4), 2);
        EDGES.due("1, 3: off(0, 1, 3, 7)", rowOf(1, 3).off(0, 1, 3, 7), 5);
        EDGES.due("1, 3: off(0, 3, 3, 1)", rowOf(1, 3).off(0, 3, 3, 1), 1);
        EDGES.due("1, 3: off(0, 3, 3, 4)", rowOf(1, 3).off(0, 3, 3, 4), 5);
    }

    private static void offOfMost() {
        SelfRows x = new SelfRows();
        EDGES.due("off(0, 1, 2, 100000)", x.off(0, 1, 2, 100000), 66);
        EDGES.due("off(0, 2, 6, 100000)", x.off(0, 2, 6, 100000), 6 * 50028 - 100000);
        EDGES.due("off(0, 2, 6, 99999)", x.off(0, 2, 6, 99999), 6 * 50027 - 99999);
        EDGES.due("off(0, 3, 2, 100000)", x.off(0, 3, 2, 100000), 100000);
        EDGES.due("off(0, 3, 2, 99999)", x.off(0, 3, 2, 99999), 99999);
    }

    private static void offOutside() {
        for (int n : Edges.TOO_FAR) {
            EDGES.refused("off(1, 4, 2, " + n + ")", x -> x.off(1, 4, 2, n), OUTSIDE);
            EDGES.refused("off(1, 0, 9, " + n + ")", x -> x.off(1, 0, 9, n), OUTSIDE);
        }
    }

    private static void leastAndGreatestShare() {
        int[] due = {2, 4, 6, 8, 10};
        for (int share = 2; share <= 6; share++) {
            // 2 2 1: two of two, times share, less 2
            EDGES.due("2, 1: off(0, 2, " + share + ", 2)", rowOf(2, 1).off(0, 2, share, 2), due[share - 2]);
        }
    }

    private static void sharesOutside() {
        int[] wrong = {1, 0, -1, MIN, 7, 8, MAX};
        for (int share : wrong) {
            EDGES.refused("off(1, 4, " + share + ", 5)", x -> x.off(1, 4, share, 5), OUTSIDE);
            EDGES.refused("off(0, 1, " + share + ", 0)", x -> x.off(0, 1, share, 0), OUTSIDE);
        }
    }

    private static void offOfLeastAndGreatestLetter() {
        SelfRows x = rowOf(1, 6);
        EDGES.due("off(0, 1, 2, 1)", x.off(0, 1, 2, 1), 1);
        EDGES.due("off(0, 6, 2, 1)", x.off(0, 6, 2, 1), 1);
        EDGES.due("off(0, 6, 2, 7)", x.off(0, 6, 2, 7), 5);
        int[] none = {0, 7, -1, MIN, MAX};
        for (int v : none) EDGES.due("off(0, " + v + ", 6, 100000)", x.off(0, v, 6, 100000), 100000);
    }
}
