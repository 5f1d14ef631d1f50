/** The edges of promises 1 to 3 and of how rows are made: a new object, alphabets, the ring. */
public final class RingEdgesTest {
    private static final int UNKNOWN = -101, OUTSIDE = -102;
    private static final int MIN = Integer.MIN_VALUE, MAX = Integer.MAX_VALUE;
    private static final Edges EDGES = new Edges();

    public static void main(String[] args) {
        EDGES.test("1: a new object has one row", RingEdgesTest::newRing);
        EDGES.test("1: each alphabet of a new object is 1, 2", RingEdgesTest::newAlphabets);
        EDGES.test("1: the word of a new object is empty", RingEdgesTest::newWord);
        EDGES.test("1: two objects have nothing in common", RingEdgesTest::twoObjects);
        EDGES.test("a new object answers its 512th call", RingEdgesTest::lastCall);
        EDGES.test("2: alphabets 0 and 3 are the first and the last", RingEdgesTest::firstAndLastAlphabet);
        EDGES.test("2: n is 2 to 4", RingEdgesTest::fewestAndMostLetters);
        EDGES.test("2: n is not 1 or less, nor 5 or more", RingEdgesTest::tooFewAndTooManyLetters);
        EDGES.test("2: letters 1 and 6 stand at each place", RingEdgesTest::leastAndGreatestLetter);
        EDGES.test("2: letters 0 and 7 stand at none", RingEdgesTest::tooSmallAndTooGreatLetters);
        EDGES.test("2: no two neighbours alike", RingEdgesTest::neighboursAlike);
        EDGES.test("2: nor the last one and the first", RingEdgesTest::lastAndFirstAlike);
        EDGES.test("2: letters that are no neighbours may be alike", RingEdgesTest::othersAlike);
        EDGES.test("2: letters as far as n goes", RingEdgesTest::lettersBehindN);
        EDGES.test("2: an alphabet that is not there", RingEdgesTest::noSuchAlphabet);
        EDGES.test("2: UNKNOWN is told before OUTSIDE", RingEdgesTest::alphabetUnknownFirst);
        EDGES.test("2: an alphabet becomes shorter, and longer", RingEdgesTest::shorterAndLonger);
        EDGES.test("2: a row has its alphabet by number", RingEdgesTest::alphabetInUse);
        EDGES.test("3: n is 1 to 3", RingEdgesTest::fewestAndMostRows);
        EDGES.test("3: n is not 0 or less, nor 4 or more", RingEdgesTest::tooFewAndTooManyRows);
        EDGES.test("3: rows have alphabets 0 and 3", RingEdgesTest::firstAndLastAlphabetOfRows);
        EDGES.test("3: an alphabet of a row that is not there", RingEdgesTest::unknownAlphabetOfRow);
        EDGES.test("3: alphabets as far as n goes", RingEdgesTest::alphabetsBehindN);
        EDGES.test("3: OUTSIDE is told before UNKNOWN", RingEdgesTest::ringOutsideFirst);
        EDGES.test("rows: behind the last letter comes the first", RingEdgesTest::lettersRound);
        EDGES.test("rows: a row of a ring of one tells itself", RingEdgesTest::rowBehindOne);
        EDGES.test("rows: behind the last row of two comes row 0", RingEdgesTest::rowBehindTwo);
        EDGES.test("rows: behind the last row of three comes row 0", RingEdgesTest::rowBehindThree);
        EDGES.test("rows: a number that is not made yet is the letter of the run that begins there", RingEdgesTest::notMadeYet);
        EDGES.end();
    }

    private static void newRing() {
        SelfRows x = new SelfRows();
        EDGES.due("told(0)", x.told(0), 1);
        EDGES.due("at(0, 0)", x.at(0, 0), 1);
        EDGES.due("at(1, 0)", x.at(1, 0), UNKNOWN);
        EDGES.dueRow("new", x, 0, Edges.FIRST);
    }

    private static void newAlphabets() {
        for (int a = 0; a <= 3; a++) {
            SelfRows x = new SelfRows();
            EDGES.due("told(" + (4 + a) + ")", x.told(4 + a), 2);
            for (int i = 0; i < 4; i++) x.add(1);
            EDGES.due("lengthen(" + a + ", 0)", x.lengthen(a, 0), 4);
            EDGES.dueWord("alphabet " + a, x, "1212");
        }
        // 8 letters, the one row's alphabet, no word, nothing done: 163 goes through 11 steps of 31, and no further.
        EDGES.due("digest()", new SelfRows().digest(), 4142455150507300345L);
    }

    private static void newWord() {
        SelfRows x = new SelfRows();
        EDGES.dueWord("new", x, "");
        EDGES.due("clear()", x.clear(), 0);
        EDGES.due("told(2)", x.told(2), 0);
        EDGES.due("told(3)", x.told(3), 0);
    }

    private static void twoObjects() {
        SelfRows x = Edges.used();
        EDGES.due("another's digest()", new SelfRows().digest(), 4142455150507300345L);
        EDGES.dueWord("the first one's", x, "1221");
    }

    private static void lastCall() {
        SelfRows x = new SelfRows();
        for (int call = 1; call <= 511; call++) {
            int v = 1 + call % 6;
            boolean full = call > 60;
            EDGES.due("call " + call + ": add(" + v + ")", x.add(v), full ? SelfRows.FULL : call);
        }
        EDGES.due("call 512: clear()", x.clear(), 60);
        SelfRows dear = new SelfRows();
        for (int call = 1; call <= 512; call++) {
            EDGES.due("call " + call + ": count(0, 1, 100000)", dear.count(0, 1, 100000), 49972);
        }
    }

    private static void firstAndLastAlphabet() {
        SelfRows x = new SelfRows();
        EDGES.due("alphabet 0", x.alphabet(0, 3, 1, 2, 3, 0), 3);
        EDGES.due("told(4)", x.told(4), 3);
        EDGES.due("told(5)", x.told(5), 2);
        EDGES.due("alphabet 3", x.alphabet(3, 4, 1, 2, 3, 4), 4);
        EDGES.due("told(7)", x.told(7), 4);
        EDGES.due("told(6)", x.told(6), 2);
    }

    private static void fewestAndMostLetters() {
        SelfRows x = new SelfRows();
        EDGES.due("4 letters", x.alphabet(1, 4, 3, 4, 5, 6), 4);
        EDGES.due("told(5)", x.told(5), 4);
        EDGES.due("2 letters", x.alphabet(1, 2, 3, 4, 5, 6), 2);
        EDGES.due("told(5)", x.told(5), 2);
        EDGES.due("3 letters", x.alphabet(1, 3, 3, 4, 5, 6), 3);
        EDGES.due("told(5)", x.told(5), 3);
    }

    private static void tooFewAndTooManyLetters() {
        int[] sizes = {1, 0, -1, MIN, 5, 6, MAX};
        for (int n : sizes) EDGES.refused("alphabet of " + n, x -> x.alphabet(1, n, 1, 2, 3, 4), OUTSIDE);
    }

    /** An alphabet of n with letter v at a place, among others that are unlike it. */
    private static int putAlphabet(SelfRows x, int n, int place, int v) {
        int[] letters = {2, 3, 4, 5};
        letters[place] = v;
        return x.alphabet(1, n, letters[0], letters[1], letters[2], letters[3]);
    }

    private static void leastAndGreatestLetter() {
        for (int n = 2; n <= 4; n++) {
            for (int place = 0; place < n; place++) {
                int[] ends = {1, 6};
                for (int v : ends) {
                    SelfRows x = Edges.with("1111");
                    EDGES.due("letter " + v + " at " + place + " of " + n, putAlphabet(x, n, place, v), n);
                    x.lengthen(1, place);
                    EDGES.due("letter " + v + " at " + place + " of " + n + ", lengthened", x.letter(0), v);
                }
            }
        }
    }

    private static void tooSmallAndTooGreatLetters() {
        int[] wrong = {0, 7, -1, MIN, MAX};
        for (int n = 2; n <= 4; n++) {
            for (int place = 0; place < n; place++) {
                for (int v : wrong) {
                    int size = n, at = place;
                    EDGES.refused("letter " + v + " at " + place + " of " + n, x -> putAlphabet(x, size, at, v), OUTSIDE);
                }
            }
        }
    }

    private static void neighboursAlike() {
        EDGES.refused("3, 3", x -> x.alphabet(1, 2, 3, 3, 1, 2), OUTSIDE);
        EDGES.refused("1, 1, 2", x -> x.alphabet(1, 3, 1, 1, 2, 4), OUTSIDE);
        EDGES.refused("1, 2, 2", x -> x.alphabet(1, 3, 1, 2, 2, 4), OUTSIDE);
        EDGES.refused("1, 1, 2, 3", x -> x.alphabet(1, 4, 1, 1, 2, 3), OUTSIDE);
        EDGES.refused("1, 2, 2, 3", x -> x.alphabet(1, 4, 1, 2, 2, 3), OUTSIDE);
        EDGES.refused("1, 2, 3, 3", x -> x.alphabet(1, 4, 1, 2, 3, 3), OUTSIDE);
    }

    private static void lastAndFirstAlike() {
        EDGES.refused("6, 6", x -> x.alphabet(1, 2, 6, 6, 1, 2), OUTSIDE);
        EDGES.refused("1, 2, 1", x -> x.alphabet(1, 3, 1, 2, 1, 4), OUTSIDE);
        EDGES.refused("1, 2, 3, 1", x -> x.alphabet(1, 4, 1, 2, 3, 1), OUTSIDE);
    }

    private static void othersAlike() {
        SelfRows x = Edges.with("11111");
        EDGES.due("1, 2, 1, 3", x.alphabet(1, 4, 1, 2, 1, 3), 4);
        EDGES.due("2, 1, 3, 1", x.alphabet(2, 4, 2, 1, 3, 1), 4);
        EDGES.due("5, 6, 5, 6", x.alphabet(3, 4, 5, 6, 5, 6), 4);
        x.lengthen(3, 0);
        EDGES.dueWord("5, 6, 5, 6", x, "56565");
        x.lengthen(0, 0);
        EDGES.dueWord("1, 2", x, "111112222221111122222211111");
    }

    private static void lettersBehindN() {
        SelfRows x = Edges.with("11111");
        EDGES.due("two, and letters that are none", x.alphabet(1, 2, 1, 3, MIN, MAX), 2);
        EDGES.due("two, and the second once more", x.alphabet(1, 2, 1, 3, 3, 3), 2);
        EDGES.due("two, and the first at the end", x.alphabet(1, 2, 1, 3, 1, 1), 2);
        EDGES.due("two, and 0", x.alphabet(1, 2, 4, 3, 0, 0), 2);
        EDGES.due("three, and a letter that is none", x.alphabet(2, 3, 1, 3, 2, 7), 3);
        EDGES.due("three, and the third once more", x.alphabet(2, 3, 1, 3, 2, 2), 3);
        EDGES.due("three, and the first at the end", x.alphabet(2, 3, 1, 3, 2, 1), 3);
        x.lengthen(1, 0);
        EDGES.dueWord("two", x, "43434");
    }

    private static void noSuchAlphabet() {
        int[] wrong = {-1, 4, MIN, MAX};
        for (int a : wrong) EDGES.refused("alphabet " + a, x -> x.alphabet(a, 2, 1, 3, 0, 0), UNKNOWN);
    }

    private static void alphabetUnknownFirst() {
        int[] wrong = {-1, 4};
        for (int a : wrong) {
            EDGES.refused("of 1, and alphabet " + a, x -> x.alphabet(a, 1, 1, 2, 3, 4), UNKNOWN);
            EDGES.refused("of 5, and alphabet " + a, x -> x.alphabet(a, 5, 1, 2, 3, 4), UNKNOWN);
            EDGES.refused("with 7, and alphabet " + a, x -> x.alphabet(a, 2, 7, 2, 0, 0), UNKNOWN);
            EDGES.refused("with neighbours alike, and alphabet " + a, x -> x.alphabet(a, 2, 2, 2, 0, 0), UNKNOWN);
        }
    }

    private static void shorterAndLonger() {
        SelfRows x = new SelfRows();
        x.alphabet(0, 4, 1, 2, 3, 4);
        EDGES.dueRow("four", x, 0, "122334441112222333344441");
        x.alphabet(0, 2, 1, 2, 0, 0);
        EDGES.dueRow("two", x, 0, "122112122122112112212112");
        x.alphabet(0, 3, 1, 2, 3, 0);
        EDGES.dueRow("three", x, 0, "1223311122231233112233312");
    }

    private static void alphabetInUse() {
        SelfRows x = new SelfRows();
        EDGES.due("at(0, 100000)", x.at(0, 100000), 1);
        x.alphabet(1, 2, 6, 5, 0, 0);
        EDGES.dueRow("another one is changed", x, 0, "12211212212211211221");
        x.alphabet(0, 2, 2, 1, 0, 0);
        EDGES.dueRow("its own is changed", x, 0, "22112122122112112212");
        EDGES.due("at(0, 100000), its own is changed", x.at(0, 100000), 2);
        EDGES.refused("alphabet 0 with 7", x, y -> y.alphabet(0, 2, 1, 7, 0, 0), OUTSIDE);
        x.alphabet(0, 2, 1, 2, 0, 0);
        EDGES.due("at(0, 100000), and changed back", x.at(0, 100000), 1);
    }

    private static void fewestAndMostRows() {
        SelfRows x = new SelfRows();
        for (int n = 3; n >= 1; n--) {
            EDGES.due("ring of " + n, x.ring(n, 0, 1, 2), n);
            EDGES.due("told(0) of " + n, x.told(0), n);
            EDGES.due("the last row of " + n, x.at(n - 1, 0), 1);
            EDGES.due("the one behind the last of " + n, x.at(n, 0), UNKNOWN);
        }
        EDGES.due("ring of 3 again", x.ring(3, 0, 1, 2), 3);
        EDGES.due("the last row of 3 again", x.at(2, 0), 1);
    }

    private static void tooFewAndTooManyRows() {
        int[] sizes = {0, -1, MIN, 4, 5, MAX};
        for (int n : sizes) EDGES.refused("ring of " + n, x -> x.ring(n, 0, 1, 2), OUTSIDE);
    }

    private static void firstAndLastAlphabetOfRows() {
        SelfRows x = new SelfRows();
        x.alphabet(3, 2, 2, 1, 0, 0);
        EDGES.due("ring(3, 0, 3, 3)", x.ring(3, 0, 3, 3), 3);
        EDGES.due("row 0", x.at(0, 0), 1);
        EDGES.due("row 1", x.at(1, 0), 2);
        EDGES.due("row 2", x.at(2, 0), 2);
        EDGES.due("ring(3, 3, 0, 0)", x.ring(3, 3, 0, 0), 3);
        EDGES.due("row 0", x.at(0, 0), 2);
        EDGES.due("row 1", x.at(1, 0), 1);
        EDGES.due("row 2", x.at(2, 0), 1);
    }

    private static void unknownAlphabetOfRow() {
        int[] wrong = {-1, 4, MIN, MAX};
        for (int a : wrong) {
            EDGES.refused("the only one " + a, x -> x.ring(1, a, 0, 0), UNKNOWN);
            EDGES.refused("the first of two " + a, x -> x.ring(2, a, 0, 0), UNKNOWN);
            EDGES.refused("the second of two " + a, x -> x.ring(2, 0, a, 0), UNKNOWN);
            EDGES.refused("the first of three " + a, x -> x.ring(3, a, 0, 0), UNKNOWN);
            EDGES.refused("the second of three " + a, x -> x.ring(3, 0, a, 0), UNKNOWN);
            EDGES.refused("the third of three " + a, x -> x.ring(3, 0, 0, a), UNKNOWN);
        }
    }

    private static void alphabetsBehindN() {
        SelfRows x = new SelfRows();
        int[] wrong = {-1, 4, MIN, MAX};
        for (int a : wrong) {
            EDGES.due("ring of 1, and " + a, x.ring(1, 3, a, a), 1);
            EDGES.due("ring of 2, and " + a, x.ring(2, 3, 0, a), 2);
        }
        EDGES.dueRow("ring of 2", x, 1, "122112122122112112212112");
    }

    private static void ringOutsideFirst() {
        int[] sizes = {0, 4};
        for (int n : sizes) {
            EDGES.refused("ring of " + n + " with 4", x -> x.ring(n, 4, 0, 0), OUTSIDE);
            EDGES.refused("ring of " + n + " with -1", x -> x.ring(n, 0, -1, -1), OUTSIDE);
        }
    }

    private static void lettersRound() {
        SelfRows x = new SelfRows();
        x.alphabet(0, 2, 5, 6, 0, 0);
        EDGES.dueRow("two letters", x, 0, "555556666655555666665555566666655555566666655555");
        x.alphabet(0, 3, 2, 4, 6, 0);
        EDGES.dueRow("three letters", x, 0, "224466662222444444666666222222444444662244");
        x.alphabet(0, 4, 4, 3, 2, 1);
        EDGES.dueRow("four letters", x, 0, "44443333222211114443332221114433221143214444");
        x.alphabet(0, 4, 1, 3, 1, 6);
        EDGES.dueRow("four letters, two alike", x, 0, "133311166613166666611111133333316661333333111111666666111111333333");
    }

    private static void rowBehindOne() {
        SelfRows x = new SelfRows();
        x.alphabet(1, 2, 1, 3, 0, 0);
        x.ring(1, 1, 2, 3);
        EDGES.dueRow("1, 3", x, 0, "1333111333131333111333");
    }

    private static void rowBehindTwo() {
        SelfRows x = new SelfRows();
        x.alphabet(1, 4, 1, 3, 1, 6);
        x.alphabet(2, 3, 5, 4, 6, 0);
        x.ring(2, 1, 2, 3);
        EDGES.dueRow("ring of two", x, 0, "111113333111111666661111333333111111666666");
        EDGES.dueRow("ring of two", x, 1, "54654666555444666546546555555444444666666");
        for (int j = 0; j < 40; j++) {
            EDGES.due("length of run " + j + " of row 0", x.begins(0, j + 1) - x.begins(0, j), x.at(1, j));
            EDGES.due("length of run " + j + " of row 1", x.begins(1, j + 1) - x.begins(1, j), x.at(0, j));
        }
    }

    private static void rowBehindThree() {
        SelfRows x = new SelfRows();
        x.alphabet(1, 4, 1, 3, 1, 6);
        x.alphabet(2, 3, 5, 4, 6, 0);
        x.alphabet(3, 2, 2, 1, 0, 0);
        x.ring(3, 1, 2, 3);
        EDGES.dueRow("ring of three", x, 0, "11111333331111666666111111333331111666611111133333111166666611111133333111116666");
        EDGES.dueRow("ring of three", x, 1, "55466544654665544654665544654665446554466554466546546554466554466546546554466554");
        EDGES.dueRow("ring of three", x, 2, "21212111222111222111212122222211111122222211111122222211111121212122211122211122");
        for (int j = 0; j < 20; j++) {
            EDGES.due("length of run " + j + " of row 0", x.begins(0, j + 1) - x.begins(0, j), x.at(1, j));
            EDGES.due("length of run " + j + " of row 1", x.begins(1, j + 1) - x.begins(1, j), x.at(2, j));
            EDGES.due("length of run " + j + " of row 2", x.begins(2, j + 1) - x.begins(2, j), x.at(0, j));
        }
    }

    /** The first number of a row of one, the second, where the first is a 1; the first numbers of rings. */
    private static void notMadeYet() {
        for (int v = 1; v <= 6; v++) {
            int first = v, other = v == 1 ? 6 : 1;
            SelfRows x = new SelfRows();
            x.alphabet(0, 2, first, other, 0, 0);
            EDGES.due(first + ", " + other + ": run 1", x.begins(0, 1), first);
            x.alphabet(0, 2, 1, v == 1 ? 2 : v, 0, 0);
            EDGES.due("1, " + v + ": run 2", x.begins(0, 2), v == 1 ? 3 : 1 + v);
        }
        SelfRows x = new SelfRows();
        x.alphabet(1, 2, 1, 4, 0, 0);
        x.alphabet(2, 2, 1, 5, 0, 0);
        x.ring(2, 1, 2, 0);
        // Each first run is 1 long; run 1 of row 1 tells how long run 1 of row 0 is, before either is made.
        EDGES.dueRow("1, 4 and 1, 5", x, 0, "1444441111144444");
        EDGES.dueRow("1, 4 and 1, 5", x, 1, "1555511115555111155551");
    }
}
