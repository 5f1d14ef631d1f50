/** The edges of promises 10 to 19, 21 and 22: the word. */
public final class WordEdgesTest {
    private static final int NONE = -1, UNKNOWN = -101, OUTSIDE = -102, STATE = -103, FULL = -104;
    private static final int MIN = Integer.MIN_VALUE, MAX = Integer.MAX_VALUE;
    private static final int[] NO_ALPHABETS = {-1, MIN, 4, 5, MAX};
    private static final Edges EDGES = new Edges();

    public static void main(String[] args) {
        EDGES.test("10 to 23: the word that became empty is like a new one", WordEdgesTest::emptiedWords);
        EDGES.test("10: the word that became full takes no letter", WordEdgesTest::filledWords);
        EDGES.test("10: letters 1 and 6", WordEdgesTest::leastAndGreatestAdded);
        EDGES.test("10: letters 0 and 7", WordEdgesTest::addOutside);
        EDGES.test("10: the 60th letter, and the 61st", WordEdgesTest::addToFullWord);
        EDGES.test("10: OUTSIDE is told before FULL", WordEdgesTest::addOutsideFirst);
        EDGES.test("11: n 0", WordEdgesTest::takeNone);
        EDGES.test("11: n 60", WordEdgesTest::takeMost);
        EDGES.test("11: n -1 and 61", WordEdgesTest::takeTooFewAndTooMany);
        EDGES.test("11: k 0 and 100000", WordEdgesTest::takeFromFirstAndLastPlace);
        EDGES.test("11: k -1 and 100001", WordEdgesTest::takeFromOutside);
        EDGES.test("11: the last one is number 100000", WordEdgesTest::takeToTheEnd);
        EDGES.test("11: one is behind number 100000", WordEdgesTest::takeBehindTheEnd);
        EDGES.test("11: rows that are not there, told before OUTSIDE", WordEdgesTest::takeOfNoRow);
        EDGES.test("12: nothing is cleared, and 60 letters", WordEdgesTest::clearEmptyAndFull);
        EDGES.test("13: the first letter, the last one, and none", WordEdgesTest::firstAndLastLetter);
        EDGES.test("14: no run, one, and 60", WordEdgesTest::fewestAndMostRuns);
        EDGES.test("15: the empty word", WordEdgesTest::shortenEmpty);
        EDGES.test("15: words of 60 letters", WordEdgesTest::shortenFull);
        EDGES.test("15: g 1 and 6", WordEdgesTest::shortenByLeastAndGreatest);
        EDGES.test("15: g 0 and 7", WordEdgesTest::shortenOutside);
        EDGES.test("15: the first run as long as g, and shorter", WordEdgesTest::shortenFirstRun);
        EDGES.test("15: the last run as long as g, and shorter", WordEdgesTest::shortenLastRun);
        EDGES.test("15: one run alone", WordEdgesTest::shortenOneRun);
        EDGES.test("15: a run amid is never left out", WordEdgesTest::shortenRunAmid);
        EDGES.test("15: a run of 6, and one of 7", WordEdgesTest::shortenLongRuns);
        EDGES.test("15: OUTSIDE is told before STATE", WordEdgesTest::shortenOutsideFirst);
        EDGES.test("16: the empty word", WordEdgesTest::lengthenEmpty);
        EDGES.test("16: 60 letters, and 61", WordEdgesTest::lengthenToFull);
        EDGES.test("16: alphabets 0 and 3, and those that are not there", WordEdgesTest::lengthenByFirstAndLastAlphabet);
        EDGES.test("16: the last letter, and the one behind it", WordEdgesTest::lengthenFromLastLetter);
        EDGES.test("16: round, from the last letter to the first", WordEdgesTest::lengthenRound);
        EDGES.test("16: UNKNOWN, then OUTSIDE, then FULL", WordEdgesTest::lengthenRefusalsInOrder);
        EDGES.test("17: nothing, one letter, 60", WordEdgesTest::mirrorEmptyAndFull);
        EDGES.test("18: nothing, and 60 letters", WordEdgesTest::turnEmptyAndFull);
        EDGES.test("18: the last letter becomes the first", WordEdgesTest::turnLastLetter);
        EDGES.test("18: of several like ones the first counts", WordEdgesTest::turnLikeLetters);
        EDGES.test("18: letters that are not in it stay", WordEdgesTest::turnOtherLetters);
        EDGES.test("18: alphabets 0 and 3, and those that are not there", WordEdgesTest::turnByFirstAndLastAlphabet);
        EDGES.test("19: the empty word may stand", WordEdgesTest::depthOfEmpty);
        EDGES.test("19: words of 60 letters", WordEdgesTest::depthOfFull);
        EDGES.test("19: g 2 and 6", WordEdgesTest::depthOfLeastAndGreatest);
        EDGES.test("19: g 1 and 7", WordEdgesTest::depthOutside);
        EDGES.test("19: a letter g, and one above", WordEdgesTest::depthOfGreatLetters);
        EDGES.test("19: a run of g, and a longer one", WordEdgesTest::depthOfLongRuns);
        EDGES.test("19: shortened, it may not stand", WordEdgesTest::depthOfShortenedWords);
        EDGES.test("21: nothing, and one letter", WordEdgesTest::mirroredLeast);
        EDGES.test("21: words of 60 letters", WordEdgesTest::mirroredMost);
        EDGES.test("22: nothing, and one letter", WordEdgesTest::twiceInLeast);
        EDGES.test("22: stretches of 1 and of 30", WordEdgesTest::shortestAndLongestTwice);
        EDGES.test("22: at the beginning and at the end", WordEdgesTest::twiceAtEnds);
        EDGES.test("22: twice, but not right behind", WordEdgesTest::twiceApart);
        EDGES.test("22: the least of several", WordEdgesTest::leastTwice);
        EDGES.end();
    }

    private static void emptiedWords() {
        String[] ways = {"new", "clear()", "take(0, 7, 0)", "shorten(2) of 12", "shorten(6) of 11111"};
        for (int way = 0; way < ways.length; way++) {
            SelfRows x = Edges.with(way == 3 ? "12" : way == 4 ? "11111" : "");
            if (way == 1 || way == 2) x.take(0, 0, 60);
            if (way == 1) x.clear();
            if (way == 2) x.take(0, 7, 0);
            if (way == 3) x.shorten(2);
            if (way == 4) x.shorten(6);
            dueEmpty(ways[way], x);
        }
    }

    private static void dueEmpty(String way, SelfRows x) {
        EDGES.dueWord(way, x, "");
        EDGES.due(way + ": runs()", x.runs(), 0);
        EDGES.due(way + ": isMirror()", x.isMirror(), 1);
        EDGES.due(way + ": twice()", x.twice(), 0);
        EDGES.due(way + ": depth(2)", x.depth(2), 0);
        EDGES.due(way + ": find(0, 5, 9)", x.find(0, 5, 9), 5);
        EDGES.due(way + ": digest()", x.digest(), 4142455150507300345L);
        EDGES.due(way + ": mirror()", x.mirror(), 0);
        EDGES.due(way + ": turn(0)", x.turn(0), 0);
        EDGES.due(way + ": shorten(1)", x.shorten(1), 0);
        EDGES.due(way + ": lengthen(0, 1)", x.lengthen(0, 1), 0);
        EDGES.due(way + ": clear()", x.clear(), 0);
        EDGES.dueWord(way + ", and all that", x, "");
        EDGES.due(way + ": add(6)", x.add(6), 1);
        EDGES.dueWord(way + ", and a 6", x, "6");
    }

    private static void filledWords() {
        SelfRows taken = Edges.with("5");
        taken.take(0, 0, 60);
        EDGES.refused("60 taken: add(1)", taken, x -> x.add(1), FULL);
        SelfRows longer = Edges.with("6".repeat(10));
        longer.lengthen(0, 0);
        EDGES.refused("60 by lengthen: add(1)", longer, x -> x.add(1), FULL);
        EDGES.due("shorten(6)", longer.shorten(6), 10);
        EDGES.due("room again: add(1)", longer.add(1), 11);
        EDGES.due("mirror()", taken.mirror(), 60);
        EDGES.due("60 mirrored: add(1)", taken.add(1), FULL);
        EDGES.due("take(0, 0, 59)", taken.take(0, 0, 59), 59);
        EDGES.due("one more: add(1)", taken.add(1), 60);
        EDGES.due("and another: add(1)", taken.add(1), FULL);
    }

    private static void leastAndGreatestAdded() {
        SelfRows x = new SelfRows();
        EDGES.due("add(1)", x.add(1), 1);
        EDGES.due("add(6)", x.add(6), 2);
        EDGES.dueWord("1 and 6", x, "16");
    }

    private static void addOutside() {
        int[] wrong = {0, -1, MIN, 7, 8, MAX};
        for (int v : wrong) {
            EDGES.refused("add(" + v + ")", x -> x.add(v), OUTSIDE);
            EDGES.refused("add(" + v + ") to nothing", new SelfRows(), x -> x.add(v), OUTSIDE);
        }
    }

    private static void addToFullWord() {
        SelfRows x = Edges.with("3".repeat(58));
        EDGES.due("the 59th", x.add(4), 59);
        EDGES.due("the 60th", x.add(5), 60);
        EDGES.dueWord("60", x, "3".repeat(58) + "45");
        for (int v = 1; v <= 6; v++) {
            int sixtyFirst = v;
            EDGES.refused("a " + v + " as the 61st", Edges.with("3".repeat(60)), y -> y.add(sixtyFirst), FULL);
        }
        x.clear();
        EDGES.due("behind clear()", x.add(6), 1);
    }

    private static void addOutsideFirst() {
        int[] wrong = {0, 7, MIN, MAX};
        for (int v : wrong) EDGES.refused("60 letters: add(" + v + ")", Edges.with("3".repeat(60)), x -> x.add(v), OUTSIDE);
    }

    private static void takeNone() {
        int[] places = {0, 1, 99999, 100000};
        for (int k : places) {
            SelfRows x = Edges.with("345");
            EDGES.due("take(0, " + k + ", 0)", x.take(0, k, 0), 0);
            EDGES.dueWord("take(0, " + k + ", 0)", x, "");
        }
    }

    private static void takeMost() {
        SelfRows x = Edges.with("345");
        EDGES.due("take(0, 0, 60)", x.take(0, 0, 60), 60);
        EDGES.dueWord("take(0, 0, 60)", x, Edges.FIRST);
        EDGES.due("take(0, 1, 59)", x.take(0, 1, 59), 59);
        EDGES.dueWord("take(0, 1, 59)", x, Edges.FIRST.substring(1));
        EDGES.due("take(0, 0, 1)", x.take(0, 0, 1), 1);
        EDGES.dueWord("take(0, 0, 1)", x, "1");
    }

    private static void takeTooFewAndTooMany() {
        int[] wrong = {-1, MIN, 61, 62, MAX};
        for (int n : wrong) {
            EDGES.refused("take(0, 0, " + n + ")", x -> x.take(0, 0, n), OUTSIDE);
            EDGES.refused("take(1, 50000, " + n + ")", x -> x.take(1, 50000, n), OUTSIDE);
            EDGES.refused("take(1, 100000, " + n + ")", x -> x.take(1, 100000, n), OUTSIDE);
        }
    }

    private static void takeFromFirstAndLastPlace() {
        SelfRows x = Edges.used();
        EDGES.due("take(1, 0, 4)", x.take(1, 0, 4), 4);
        EDGES.dueWord("take(1, 0, 4)", x, "5465");
        EDGES.due("take(1, 100000, 1)", x.take(1, 100000, 1), 1);
        EDGES.dueWord("take(1, 100000, 1)", x, "6");
        EDGES.due("take(0, 100000, 1)", x.take(0, 100000, 1), 1);
        EDGES.dueWord("take(0, 100000, 1)", x, "1");
    }

    private static void takeFromOutside() {
        int[] wrong = {-1, MIN, 100001, MAX};
        int[] many = {0, 1, 60};
        for (int k : wrong) {
            for (int n : many) EDGES.refused("take(0, " + k + ", " + n + ")", x -> x.take(0, k, n), OUTSIDE);
        }
        EDGES.refused("take(0, MAX, MAX)", x -> x.take(0, MAX, MAX), OUTSIDE);
        EDGES.refused("take(0, MIN, MIN)", x -> x.take(0, MIN, MIN), OUTSIDE);
        EDGES.refused("take(0, -60, 60)", x -> x.take(0, -60, 60), OUTSIDE);
    }

    private static void takeToTheEnd() {
        SelfRows x = new SelfRows();
        EDGES.due("take(0, 99941, 60)", x.take(0, 99941, 60), 60);
        EDGES.dueWord("take(0, 99941, 60)", x, "211212211211221211212212211211212211211221211211221221121221");
    }

    private static void takeBehindTheEnd() {
        for (int n = 2; n <= 60; n++) {
            int many = n;
            EDGES.refused("take(0, " + (100002 - n) + ", " + n + ")", x -> x.take(0, 100002 - many, many), OUTSIDE);
            EDGES.due("take(0, " + (100001 - n) + ", " + n + ")", new SelfRows().take(0, 100001 - n, n), n);
        }
        EDGES.refused("take(1, 100000, 60)", x -> x.take(1, 100000, 60), OUTSIDE);
    }

    private static void takeOfNoRow() {
        for (int row : Edges.NO_ROWS) {
            EDGES.refused("take(" + row + ", 0, 0)", x -> x.take(row, 0, 0), UNKNOWN);
            EDGES.refused("take(" + row + ", -1, 5)", x -> x.take(row, -1, 5), UNKNOWN);
            EDGES.refused("take(" + row + ", 100001, 5)", x -> x.take(row, 100001, 5), UNKNOWN);
            EDGES.refused("take(" + row + ", 5, -1)", x -> x.take(row, 5, -1), UNKNOWN);
            EDGES.refused("take(" + row + ", 5, 61)", x -> x.take(row, 5, 61), UNKNOWN);
            EDGES.refused("take(" + row + ", 100000, 2)", x -> x.take(row, 100000, 2), UNKNOWN);
        }
    }

    private static void clearEmptyAndFull() {
        SelfRows x = new SelfRows();
        EDGES.due("clear() of nothing", x.clear(), 0);
        EDGES.due("clear() of nothing again", x.clear(), 0);
        x.add(6);
        EDGES.due("clear() of one", x.clear(), 1);
        x.take(0, 0, 60);
        EDGES.due("clear() of 60", x.clear(), 60);
        EDGES.dueWord("cleared", x, "");
        EDGES.due("clear() of what is cleared", x.clear(), 0);
    }

    private static void firstAndLastLetter() {
        int[] never = {-1, MIN, 60, 61, MAX};
        String[] words = {"", "4", "62", "123456".repeat(10)};
        for (String word : words) {
            SelfRows x = Edges.with(word);
            for (int i = 0; i < word.length(); i++) EDGES.due(word + ": letter(" + i + ")", x.letter(i), word.charAt(i) - '0');
            EDGES.due(word + ": letter(" + word.length() + ")", x.letter(word.length()), NONE);
            for (int i : never) EDGES.due(word + ": letter(" + i + ")", x.letter(i), NONE);
        }
        SelfRows x = Edges.with("123456");
        x.clear();
        EDGES.due("cleared: letter(0)", x.letter(0), NONE);
        x.add(5);
        EDGES.due("cleared, and one added: letter(1)", x.letter(1), NONE);
    }

    private static void fewestAndMostRuns() {
        EDGES.due("nothing", new SelfRows().runs(), 0);
        EDGES.due("1", Edges.with("1").runs(), 1);
        EDGES.due("66", Edges.with("66").runs(), 1);
        EDGES.due("16", Edges.with("16").runs(), 2);
        EDGES.due("161", Edges.with("161").runs(), 3);
        EDGES.due("one run of 60", Edges.with("4".repeat(60)).runs(), 1);
        EDGES.due("60 runs", Edges.with("12".repeat(30)).runs(), 60);
        EDGES.due("59 letters and one more like the last", Edges.with("4".repeat(59) + "5").runs(), 2);
        EDGES.due("the first unlike the rest", Edges.with("5" + "4".repeat(59)).runs(), 2);
    }

    private static void dueShort(String word, int g, String want) {
        SelfRows x = Edges.with(word);
        EDGES.due(word + ": shorten(" + g + ")", x.shorten(g), want.length());
        EDGES.dueWord(word + " shortened by " + g, x, want);
    }

    private static void shortenEmpty() {
        for (int g = 1; g <= 6; g++) dueShort("", g, "");
    }

    private static void shortenFull() {
        dueShort("12".repeat(30), 1, "1".repeat(60));
        dueShort("12".repeat(30), 2, "1".repeat(58));
        dueShort("111111222222".repeat(5), 6, "6".repeat(10));
        dueShort("11111" + "222222111111".repeat(4) + "2222221", 6, "6".repeat(9));
    }

    private static void shortenByLeastAndGreatest() {
        dueShort("1", 1, "1");
        dueShort("12", 1, "11");
        dueShort("1222", 1, "13");
        dueShort("111111", 6, "6");
        dueShort("11111", 6, "");
        dueShort("111111222222", 6, "66");
        dueShort("11111222223", 6, "5");
        dueShort("11111122222", 6, "6");
        dueShort("11111222222", 6, "6");
    }

    private static void shortenOutside() {
        int[] wrong = {0, -1, MIN, 7, 8, MAX};
        for (int g : wrong) {
            EDGES.refused("shorten(" + g + ")", x -> x.shorten(g), OUTSIDE);
            EDGES.refused("nothing: shorten(" + g + ")", new SelfRows(), x -> x.shorten(g), OUTSIDE);
        }
    }

    /** A first run of each length, behind which runs of 2 and of 6 come. */
    private static void shortenFirstRun() {
        for (int g = 2; g <= 6; g++) {
            for (int length = 1; length <= 6; length++) {
                String want = (length >= g ? "" + length : "") + "26";
                dueShort("3".repeat(length) + "44" + "555555", g, want);
            }
        }
    }

    private static void shortenLastRun() {
        for (int g = 2; g <= 6; g++) {
            for (int length = 1; length <= 6; length++) {
                String want = "62" + (length >= g ? "" + length : "");
                dueShort("555555" + "44" + "3".repeat(length), g, want);
            }
        }
    }

    private static void shortenOneRun() {
        for (int g = 1; g <= 6; g++) {
            for (int length = 1; length <= 6; length++) dueShort("3".repeat(length), g, length >= g ? "" + length : "");
        }
    }

    /** Two runs: there is none amid. Of three, the one amid stays, however short. */
    private static void shortenRunAmid() {
        dueShort("34", 2, "");
        dueShort("334", 3, "");
        dueShort("3344", 2, "22");
        dueShort("344", 2, "2");
        dueShort("334", 2, "2");
        dueShort("345", 2, "1");
        dueShort("345", 6, "1");
        dueShort("3456", 6, "11");
        dueShort("333333455", 6, "61");
        dueShort("343", 3, "1");
    }

    private static void shortenLongRuns() {
        dueShort("1333333", 1, "16");
        dueShort("13333334", 2, "6");
        String[] words = {"3333333", "33333331", "13333333", "133333331", "2".repeat(60), "16" + "2".repeat(8) + "61"};
        for (String word : words) {
            for (int g = 1; g <= 6; g++) {
                int greatest = g;
                EDGES.refused(word + ": shorten(" + g + ")", Edges.with(word), x -> x.shorten(greatest), STATE);
            }
        }
    }

    private static void shortenOutsideFirst() {
        int[] wrong = {0, -1, 7, MIN, MAX};
        for (int g : wrong) EDGES.refused("a run of 7: shorten(" + g + ")", Edges.with("3333333"), x -> x.shorten(g), OUTSIDE);
    }

    private static void dueLong(SelfRows x, int a, int i, String want) {
        EDGES.due("lengthen(" + a + ", " + i + ")", x.lengthen(a, i), want.length());
        EDGES.dueWord("lengthen(" + a + ", " + i + ")", x, want);
    }

    private static void lengthenEmpty() {
        dueLong(new SelfRows(), 0, 0, "");
        dueLong(new SelfRows(), 3, 1, "");
        EDGES.refused("nothing: lengthen(0, 2)", new SelfRows(), x -> x.lengthen(0, 2), OUTSIDE);
    }

    private static void lengthenToFull() {
        dueLong(Edges.with("6".repeat(10)), 0, 0, "111111222222".repeat(5));
        dueLong(Edges.with("1".repeat(60)), 0, 1, "21".repeat(30));
        dueLong(Edges.with("6".repeat(9) + "5"), 0, 0, "111111222222".repeat(4) + "111111" + "22222");
        String[] words = {"6".repeat(10) + "1", "1" + "6".repeat(10), "1".repeat(59) + "2", "2" + "1".repeat(59), "6".repeat(60)};
        for (String word : words) EDGES.refused(word + ": lengthen(0, 0)", Edges.with(word), x -> x.lengthen(0, 0), FULL);
    }

    private static void lengthenByFirstAndLastAlphabet() {
        SelfRows x = Edges.with("21");
        x.alphabet(0, 2, 5, 6, 0, 0);
        x.alphabet(3, 2, 3, 4, 0, 0);
        dueLong(x, 0, 0, "556");
        x.shorten(1);
        dueLong(x, 3, 0, "334");
        for (int a : NO_ALPHABETS) EDGES.refused("lengthen(" + a + ", 0)", y -> y.lengthen(a, 0), UNKNOWN);
    }

    /** Alphabets 0, 2 and 1 of a used object have 2, 3 and 4 letters. */
    private static void lengthenFromLastLetter() {
        int[] alphabets = {0, 2, 1};
        int[] last = {2, 6, 6};
        for (int i = 0; i < 3; i++) {
            int a = alphabets[i], size = 2 + i;
            SelfRows x = Edges.used();
            EDGES.due("lengthen(" + a + ", " + (size - 1) + ")", x.lengthen(a, size - 1), 6);
            EDGES.due("the first letter is the last of alphabet " + a, x.letter(0), last[i]);
            EDGES.refused("lengthen(" + a + ", " + size + ")", y -> y.lengthen(a, size), OUTSIDE);
            int[] wrong = {-1, MIN, 4, 5, MAX};
            for (int far : wrong) EDGES.refused("lengthen(" + a + ", " + far + ")", y -> y.lengthen(a, far), OUTSIDE);
        }
    }

    private static void lengthenRound() {
        String[] two = {"122112", "211221"};
        for (int i = 0; i < 2; i++) dueLong(Edges.used(), 0, i, two[i]);
        String[] three = {"544665", "466554", "655446"};
        for (int i = 0; i < 3; i++) dueLong(Edges.used(), 2, i, three[i]);
        String[] four = {"133116", "311661", "166113", "611331"};
        for (int i = 0; i < 4; i++) dueLong(Edges.used(), 1, i, four[i]);
        SelfRows x = Edges.used();
        x.take(0, 0, 9);
        // 111113333 by 5, 4, 6: three times round
        dueLong(x, 2, 1, "46546555444666555");
    }

    private static void lengthenRefusalsInOrder() {
        String tooLong = "6".repeat(11);
        for (int a : NO_ALPHABETS) {
            EDGES.refused("lengthen(" + a + ", -1)", x -> x.lengthen(a, -1), UNKNOWN);
            EDGES.refused("lengthen(" + a + ", 4)", x -> x.lengthen(a, 4), UNKNOWN);
            EDGES.refused("too long: lengthen(" + a + ", 0)", Edges.with(tooLong), x -> x.lengthen(a, 0), UNKNOWN);
        }
        EDGES.refused("too long: lengthen(0, 2)", Edges.with(tooLong), x -> x.lengthen(0, 2), OUTSIDE);
        EDGES.refused("too long: lengthen(0, -1)", Edges.with(tooLong), x -> x.lengthen(0, -1), OUTSIDE);
        EDGES.refused("too long: lengthen(0, 1)", Edges.with(tooLong), x -> x.lengthen(0, 1), FULL);
    }

    private static void mirrorEmptyAndFull() {
        String[] words = {"", "4", "45", "456", "123456".repeat(9) + "123456", "123456".repeat(9) + "12345"};
        for (String word : words) {
            SelfRows x = Edges.with(word);
            EDGES.due(word + ": mirror()", x.mirror(), word.length());
            EDGES.dueWord("mirrored", x, new StringBuilder(word).reverse().toString());
        }
    }

    private static void dueTurned(String word, int a, int others, String want) {
        SelfRows x = Edges.with(word);
        x.alphabet(1, 4, 1, 3, 1, 6);
        x.alphabet(2, 3, 5, 4, 6, 0);
        x.alphabet(3, 4, 1, 2, 3, 2);
        EDGES.due(word + ": turn(" + a + ")", x.turn(a), others);
        EDGES.dueWord("turned by " + a, x, want);
    }

    private static void turnEmptyAndFull() {
        for (int a = 0; a <= 3; a++) dueTurned("", a, 0, "");
        dueTurned("12".repeat(30), 0, 60, "21".repeat(30));
        dueTurned("3".repeat(59) + "1", 0, 1, "3".repeat(59) + "2");
        dueTurned("2" + "3".repeat(59), 0, 1, "1" + "3".repeat(59));
    }

    private static void turnLastLetter() {
        dueTurned("2", 0, 1, "1");
        dueTurned("6", 2, 1, "5");
        dueTurned("6", 1, 1, "1");
        SelfRows x = Edges.with("1234");
        x.alphabet(1, 4, 1, 2, 3, 4);
        EDGES.due("turn(1)", x.turn(1), 4);
        EDGES.dueWord("turned by 1, 2, 3, 4", x, "2341");
    }

    /** In 1, 3, 1, 6 the first 1 counts; in 1, 2, 3, 2 the first 2, though there is another at the end. */
    private static void turnLikeLetters() {
        dueTurned("1", 1, 1, "3");
        dueTurned("1316", 1, 4, "3131");
        dueTurned("2", 3, 1, "3");
        dueTurned("1232", 3, 4, "2323");
        SelfRows x = Edges.with("5656");
        x.alphabet(1, 4, 5, 6, 5, 6);
        EDGES.due("turn(1)", x.turn(1), 4);
        EDGES.dueWord("turned by 5, 6, 5, 6", x, "6565");
    }

    private static void turnOtherLetters() {
        dueTurned("3456", 0, 0, "3456");
        dueTurned("123456", 2, 3, "123645");
        dueTurned("245", 1, 0, "245");
    }

    private static void turnByFirstAndLastAlphabet() {
        dueTurned("12", 0, 2, "21");
        dueTurned("3", 3, 1, "2");
        for (int a : NO_ALPHABETS) {
            EDGES.refused("turn(" + a + ")", x -> x.turn(a), UNKNOWN);
            EDGES.refused("nothing: turn(" + a + ")", new SelfRows(), x -> x.turn(a), UNKNOWN);
        }
    }

    private static void dueDepth(String word, int g, int want) {
        SelfRows x = Edges.with(word);
        EDGES.due(word + ": depth(" + g + ")", x.depth(g), want);
        EDGES.dueWord("depth(" + g + ") changes nothing", x, word);
    }

    private static void depthOfEmpty() {
        for (int g = 2; g <= 6; g++) dueDepth("", g, 0);
    }

    private static void depthOfFull() {
        String first = Edges.FIRST;
        dueDepth(first, 2, 8);
        dueDepth(first, 6, 7);
        dueDepth("12".repeat(30), 2, NONE);
        dueDepth("12".repeat(30), 6, NONE);
        dueDepth("1".repeat(60), 6, NONE);
        // shortened: 10 times 6, a run of 10
        dueDepth("111111222222".repeat(5), 6, NONE);
        dueDepth(first.substring(0, 59) + "3", 2, NONE);
        dueDepth("3" + first.substring(1), 2, NONE);
    }

    private static void depthOfLeastAndGreatest() {
        dueDepth("1", 2, 1);
        dueDepth("2", 2, 1);
        dueDepth("22", 2, 2);
        dueDepth("1", 6, 1);
        dueDepth("6", 6, 1);
        dueDepth("666666", 6, 2);
        dueDepth("55555", 6, 1);
    }

    private static void depthOutside() {
        int[] wrong = {1, 0, -1, MIN, 7, 8, MAX};
        for (int g : wrong) {
            EDGES.refused("depth(" + g + ")", x -> x.depth(g), OUTSIDE);
            EDGES.refused("nothing: depth(" + g + ")", new SelfRows(), x -> x.depth(g), OUTSIDE);
        }
    }

    private static void depthOfGreatLetters() {
        for (int g = 2; g <= 5; g++) {
            String letter = "" + g, above = "" + (g + 1);
            dueDepth(letter, g, 1);
            dueDepth(above, g, NONE);
            dueDepth("1" + letter, g, 1);
            dueDepth("1" + above, g, NONE);
            dueDepth(above + "1", g, NONE);
            dueDepth("1" + above + "1", g, NONE);
        }
        dueDepth("1612", 5, NONE);
        dueDepth("161", 6, 2);
    }

    private static void depthOfLongRuns() {
        for (int g = 2; g <= 6; g++) {
            dueDepth("1".repeat(g - 1), g, 1);
            dueDepth("1".repeat(g), g, 2);
            dueDepth("1".repeat(g + 1), g, NONE);
            dueDepth("2" + "1".repeat(g) + "2", g, 2);
            dueDepth("2" + "1".repeat(g + 1) + "2", g, NONE);
            dueDepth("2" + "1".repeat(g + 1), g, NONE);
            dueDepth("1".repeat(g + 1) + "2", g, NONE);
        }
    }

    private static void depthOfShortenedWords() {
        // 1212: 11, 2, nothing. 12121: 111, a run of 3.
        dueDepth("1212", 2, 3);
        dueDepth("12121", 2, NONE);
        dueDepth("12121", 3, 3);
        // 112211: 222. 1122: 22, 2, nothing.
        dueDepth("112211", 2, NONE);
        dueDepth("1122", 2, 3);
        dueDepth("112211", 3, 2);
        // 12112212: 1221, 2, nothing. 11211: 212, 1, nothing. 11211211: 21212, 111.
        dueDepth("12112212", 2, 3);
        dueDepth("11211", 2, 3);
        dueDepth("11211211", 2, NONE);
    }

    private static void dueMirror(String word, int want) {
        SelfRows x = Edges.with(word);
        EDGES.due(word + ": isMirror()", x.isMirror(), want);
        EDGES.dueWord("isMirror() changes nothing", x, word);
    }

    private static void mirroredLeast() {
        dueMirror("", 1);
        dueMirror("6", 1);
        dueMirror("66", 1);
        dueMirror("65", 0);
        dueMirror("656", 1);
        dueMirror("655", 0);
        dueMirror("566", 0);
    }

    /** Of 60, of 59; but for the outermost two; but for the two in the middle. */
    private static void mirroredMost() {
        String half = "123456123456123456123456123456";
        String back = new StringBuilder(half).reverse().toString();
        dueMirror(half + back, 1);
        dueMirror(half + back.substring(1), 1);
        dueMirror("2" + half.substring(1) + back, 0);
        dueMirror(half + back.substring(0, 29) + "2", 0);
        dueMirror(half.substring(0, 29) + "5" + back, 0);
        dueMirror(half.substring(0, 29) + "5" + back.substring(1), 1);
    }

    private static void dueTwice(String word, int want) {
        SelfRows x = Edges.with(word);
        EDGES.due(word + ": twice()", x.twice(), want);
        EDGES.dueWord("twice() changes nothing", x, word);
    }

    private static void twiceInLeast() {
        dueTwice("", 0);
        dueTwice("6", 0);
        dueTwice("66", 1);
        dueTwice("65", 0);
        dueTwice("656", 0);
    }

    private static void shortestAndLongestTwice() {
        String free = "121312141213121512131214121316";
        dueTwice(free, 0);
        dueTwice(free + free, 30);
        dueTwice(free + free.substring(0, 29), 0);
        dueTwice(free + free.substring(0, 29) + "5", 0);
        dueTwice("3" + free.substring(1) + free, 0);
        dueTwice(free.substring(1) + free.substring(1), 29);
        dueTwice("1".repeat(60), 1);
    }

    private static void twiceAtEnds() {
        String free = "121312141213121512131214121316";
        dueTwice("55" + free, 1);
        dueTwice(free + "66", 1);
        dueTwice(free + "6", 1);
        dueTwice(free + "456" + "456", 3);
        dueTwice("456" + "456" + free, 3);
    }

    private static void twiceApart() {
        dueTwice("12312", 0);
        dueTwice("1231", 0);
        dueTwice("123412", 0);
        dueTwice("123124", 0);
        dueTwice("12321", 0);
    }

    private static void leastTwice() {
        dueTwice("12311231", 1);
        dueTwice("12341234" + "5656", 2);
        dueTwice("5656" + "12341234", 2);
        dueTwice("121212", 2);
        dueTwice("123123123123", 3);
    }
}
