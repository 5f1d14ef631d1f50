/** Promises 10 to 26: the word, the word in rows, and what is told. */
public final class WordPromisesTest {
    private static final int NONE = -1, UNKNOWN = -101, OUTSIDE = -102, STATE = -103, FULL = -104;
    private static final int MIN = Integer.MIN_VALUE, MAX = Integer.MAX_VALUE;
    private static final Check CHECK = new Check();

    public static void main(String[] args) {
        add();
        take();
        takeRefused();
        clearAndLetter();
        runs();
        shorten();
        shortenRefused();
        lengthen();
        lengthenRefused();
        mirror();
        turn();
        depth();
        everyShortWord();
        many();
        isMirror();
        twice();
        find();
        findRefused();
        unlike();
        unlikeOfManyRows();
        unlikeRefused();
        told();
        digest();
        CHECK.end();
    }

    /** A new object with this word. */
    private static SelfRows with(String word) {
        SelfRows x = new SelfRows();
        for (int i = 0; i < word.length(); i++) x.add(word.charAt(i) - '0');
        return x;
    }

    private static String repeated(String part, int times) {
        StringBuilder text = new StringBuilder();
        for (int i = 0; i < times; i++) text.append(part);
        return text.toString();
    }

    private static void expectWord(String name, SelfRows x, String word) {
        CHECK.due(name + ": told(1)", x.told(1), word.length());
        for (int i = 0; i < word.length(); i++) {
            CHECK.due(name + ": letter(" + i + ")", x.letter(i), word.charAt(i) - '0');
        }
        CHECK.due(name + ": letter(" + word.length() + ")", x.letter(word.length()), NONE);
    }

    private static void add() {
        SelfRows x = new SelfRows();
        for (int v = 1; v <= 6; v++) CHECK.due("add(" + v + ")", x.add(v), v);
        int[] wrong = {0, 7, -1, MIN, MAX};
        for (int v : wrong) CHECK.due("add(" + v + ")", x.add(v), OUTSIDE);
        expectWord("add", x, "123456");
        for (int i = 7; i <= 60; i++) CHECK.due("add(2), the " + i + ". letter", x.add(2), i);
        CHECK.due("a 61st letter", x.add(1), FULL);
        CHECK.due("a 61st letter that is none", x.add(7), OUTSIDE);
        expectWord("full", x, "123456" + repeated("2", 54));
        CHECK.due("clear() of 60", x.clear(), 60);
        CHECK.due("add(5) behind clear()", x.add(5), 1);
    }

    private static void take() {
        SelfRows x = with("666");
        CHECK.due("take(0, 3, 7)", x.take(0, 3, 7), 7);
        expectWord("take(0, 3, 7)", x, "1121221");
        CHECK.due("take(0, 0, 60)", x.take(0, 0, 60), 60);
        expectWord("take(0, 0, 60)", x, "122112122122112112212112122112112122122112122121121122122112");
        CHECK.due("take(0, 100000, 1)", x.take(0, 100000, 1), 1);
        CHECK.due("letter 100000", x.letter(0), x.at(0, 100000));
        CHECK.due("take(0, 99941, 60)", x.take(0, 99941, 60), 60);
        for (int i = 0; i < 60; i++) CHECK.due("letter " + (99941 + i), x.letter(i), x.at(0, 99941 + i));
        CHECK.due("take(0, 100000, 0)", x.take(0, 100000, 0), 0);
        expectWord("take(0, 100000, 0)", x, "");
        x.alphabet(1, 2, 2, 3, 0, 0);
        x.ring(2, 0, 1, 0);
        CHECK.due("take(1, 2, 5)", x.take(1, 2, 5), 5);
        expectWord("take(1, 2, 5)", x, "22332");
        CHECK.due("take(0, 2, 3)", x.take(0, 2, 3), 3);
        expectWord("take(0, 2, 3)", x, "222");
    }

    private static void takeRefused() {
        SelfRows x = with("345");
        CHECK.due("take(1, -1, -1)", x.take(1, -1, -1), UNKNOWN);
        CHECK.due("take(-1, 0, 0)", x.take(-1, 0, 0), UNKNOWN);
        CHECK.due("take(MAX, 0, 0)", x.take(MAX, 0, 0), UNKNOWN);
        int[] places = {-1, 100001, MIN, MAX};
        for (int k : places) CHECK.due("take(0, " + k + ", 0)", x.take(0, k, 0), OUTSIDE);
        int[] many = {-1, 61, MIN, MAX};
        for (int n : many) CHECK.due("take(0, 0, " + n + ")", x.take(0, 0, n), OUTSIDE);
        CHECK.due("take(0, 100000, 2)", x.take(0, 100000, 2), OUTSIDE);
        CHECK.due("take(0, 99942, 60)", x.take(0, 99942, 60), OUTSIDE);
        expectWord("refused", x, "345");
    }

    private static void clearAndLetter() {
        SelfRows x = with("1342");
        CHECK.due("letter(-1)", x.letter(-1), NONE);
        CHECK.due("letter(MIN)", x.letter(MIN), NONE);
        CHECK.due("letter(MAX)", x.letter(MAX), NONE);
        CHECK.due("letter(60)", x.letter(60), NONE);
        expectWord("letters", x, "1342");
        CHECK.due("clear()", x.clear(), 4);
        expectWord("cleared", x, "");
        CHECK.due("clear() of nothing", x.clear(), 0);
        x = with(repeated("12", 30));
        CHECK.due("letter(59)", x.letter(59), 2);
        CHECK.due("letter(60) of 60", x.letter(60), NONE);
    }

    private static void runs() {
        String[] words = {"", "1", "11", "12", "121", "1122334", "666666666", "1221121221", repeated("12", 30)};
        int[] due = {0, 1, 1, 2, 3, 4, 1, 7, 60};
        for (int i = 0; i < words.length; i++) CHECK.due("runs of " + words[i], with(words[i]).runs(), due[i]);
    }

    private static void expectShort(String word, int g, String due) {
        SelfRows x = with(word);
        CHECK.due(word + ": shorten(" + g + ")", x.shorten(g), due.length());
        expectWord(word + " shortened by " + g, x, due);
    }

    private static void shorten() {
        expectShort("", 1, "");
        expectShort("5", 1, "1");
        expectShort("5", 2, "");
        expectShort("55", 2, "2");
        expectShort("55", 3, "");
        expectShort("12", 1, "11");
        expectShort("12", 2, "");
        expectShort("122", 2, "2");
        expectShort("112", 2, "2");
        expectShort("1221", 2, "2");
        expectShort("1213", 2, "11");
        expectShort("1213", 1, "1111");
        expectShort("112212211", 2, "22122");
        expectShort("112212211", 3, "212");
        expectShort("1112122", 3, "311");
        expectShort("2211121", 3, "31");
        expectShort("222222111111", 6, "66");
        expectShort("22222111111", 6, "6");
        expectShort("22222211111", 6, "6");
        expectShort("2222211111", 6, "");
        expectShort("1222222333", 1, "163");
        expectShort("3444444", 2, "6");
        expectShort(repeated("12", 30), 2, repeated("1", 58));
        expectShort(repeated("12", 30), 1, repeated("1", 60));
        expectShort(repeated("112233", 10), 2, repeated("2", 30));
        SelfRows x = with("1122");
        x.shorten(2);
        x.add(3);
        expectWord("behind shorten", x, "223");
    }

    private static void shortenRefused() {
        SelfRows x = with("15555555");
        int[] wrong = {0, 7, -1, MIN, MAX};
        for (int g : wrong) CHECK.due("shorten(" + g + ")", x.shorten(g), OUTSIDE);
        for (int g = 1; g <= 6; g++) CHECK.due("a run of 7: shorten(" + g + ")", x.shorten(g), STATE);
        expectWord("refused", x, "15555555");
        CHECK.due("a run of 7 in front", with("33333331").shorten(2), STATE);
        CHECK.due("a run of 7 alone", with("3333333").shorten(2), STATE);
        CHECK.due("a run of 7 amid", with("133333331").shorten(6), STATE);
        CHECK.due("a run of 60", with(repeated("4", 60)).shorten(6), STATE);
        CHECK.due("a run of 6", with("1333333").shorten(1), 2);
    }

    private static void expectLong(String word, int a, int i, String due) {
        SelfRows x = with(word);
        x.alphabet(1, 3, 4, 6, 5, 0);
        x.alphabet(2, 4, 1, 2, 1, 3);
        CHECK.due(word + ": lengthen(" + a + ", " + i + ")", x.lengthen(a, i), due.length());
        expectWord(word + " lengthened by " + a + ", " + i, x, due);
    }

    private static void lengthen() {
        expectLong("", 0, 0, "");
        expectLong("", 2, 3, "");
        expectLong("3", 0, 1, "222");
        expectLong("213", 0, 0, "112111");
        expectLong("213", 0, 1, "221222");
        expectLong("12345", 1, 0, "466555444466666");
        expectLong("12345", 1, 2, "544666555544444");
        expectLong("111122", 2, 0, "12131122");
        expectLong("111122", 2, 2, "13121133");
        expectLong("111122", 2, 3, "31213311");
        expectLong(repeated("6", 10), 0, 0, repeated("111111222222", 5));
        expectLong(repeated("1", 60), 0, 1, repeated("21", 30));
        SelfRows x = with("321");
        x.lengthen(0, 1);
        CHECK.due("back: shorten(1)", x.shorten(1), 3);
        expectWord("back", x, "321");
    }

    private static void lengthenRefused() {
        SelfRows x = with(repeated("6", 10) + "1");
        x.alphabet(1, 3, 4, 6, 5, 0);
        int[] far = {-1, 4, MIN, MAX};
        for (int a : far) CHECK.due("lengthen(" + a + ", 9)", x.lengthen(a, 9), UNKNOWN);
        int[] wrong = {-1, 2, MIN, MAX};
        for (int i : wrong) CHECK.due("lengthen(0, " + i + ")", x.lengthen(0, i), OUTSIDE);
        CHECK.due("lengthen(1, 3)", x.lengthen(1, 3), OUTSIDE);
        CHECK.due("lengthen(1, 2), 61 letters", x.lengthen(1, 2), FULL);
        CHECK.due("lengthen(0, 0), 61 letters", x.lengthen(0, 0), FULL);
        expectWord("refused", x, repeated("6", 10) + "1");
        CHECK.due("360 letters", with(repeated("6", 60)).lengthen(0, 0), FULL);
        CHECK.due("nothing, of no letter", new SelfRows().lengthen(0, 2), OUTSIDE);
    }

    private static void mirror() {
        String[] words = {"", "4", "12", "123", "1123456", repeated("123456", 10)};
        for (String word : words) {
            SelfRows x = with(word);
            CHECK.due("mirror of " + word, x.mirror(), word.length());
            expectWord("mirror of " + word, x, new StringBuilder(word).reverse().toString());
        }
    }

    private static void expectTurned(String word, int a, int others, String due) {
        SelfRows x = with(word);
        x.alphabet(1, 4, 1, 2, 1, 3);
        x.alphabet(2, 3, 6, 4, 5, 0);
        x.alphabet(3, 4, 1, 2, 3, 2);
        CHECK.due(word + ": turn(" + a + ")", x.turn(a), others);
        expectWord(word + " turned by " + a, x, due);
    }

    private static void turn() {
        expectTurned("", 0, 0, "");
        expectTurned("12213", 0, 4, "21123");
        expectTurned("123456", 1, 3, "211456");
        expectTurned("123456", 2, 3, "123564");
        expectTurned("123456", 3, 3, "232456");
        expectTurned("3456", 0, 0, "3456");
        expectTurned(repeated("12", 30), 0, 60, repeated("21", 30));
        SelfRows x = with("12");
        int[] far = {-1, 4, MIN, MAX};
        for (int a : far) CHECK.due("turn(" + a + ")", x.turn(a), UNKNOWN);
        expectWord("refused", x, "12");
    }

    private static void depth() {
        CHECK.due("nothing: depth(2)", with("").depth(2), 0);
        CHECK.due("1: depth(2)", with("1").depth(2), 1);
        CHECK.due("22: depth(2)", with("22").depth(2), 2);
        CHECK.due("222: depth(2)", with("222").depth(2), NONE);
        CHECK.due("222: depth(3)", with("222").depth(3), 2);
        CHECK.due("1221: depth(2)", with("1221").depth(2), 2);
        CHECK.due("13: depth(2)", with("13").depth(2), NONE);
        CHECK.due("13: depth(3)", with("13").depth(3), 1);
        CHECK.due("6: depth(5)", with("6").depth(5), NONE);
        CHECK.due("6: depth(6)", with("6").depth(6), 1);
        CHECK.due("12121: depth(2)", with("12121").depth(2), NONE);
        CHECK.due("2112122: depth(2)", with("2112122").depth(2), 3);
        CHECK.due("112211: depth(2)", with("112211").depth(2), NONE);
        CHECK.due("666666: depth(6)", with("666666").depth(6), 2);
        CHECK.due("6666666: depth(6)", with("6666666").depth(6), NONE);
        SelfRows x = with("1221");
        int[] wrong = {1, 7, 0, -1, MIN, MAX};
        for (int g : wrong) CHECK.due("depth(" + g + ")", x.depth(g), OUTSIDE);
        x.depth(2);
        expectWord("depth changes nothing", x, "1221");
        Model model = new Model();
        for (int k = 0; k < 100; k++) {
            for (int g = 2; g <= 3; g++) {
                x.take(0, k * 7, 60 - k % 50);
                model.take(0, k * 7, 60 - k % 50);
                CHECK.due("depth(" + g + ") from " + k * 7, x.depth(g), model.depth(g));
            }
        }
    }

    /** Every word of up to 7 letters 1 to 3, and of up to 11 letters 1, 2. */
    private static void everyShortWord() {
        for (int letters = 2; letters <= 3; letters++) {
            for (int length = 0, all = 1; length <= (letters == 2 ? 11 : 7); length++, all *= letters) {
                SelfRows x = new SelfRows();
                Model model = new Model();
                for (int number = 0; number < all; number++) {
                    x.clear();
                    model.clear();
                    for (int i = 0, rest = number; i < length; i++, rest /= letters) {
                        x.add(1 + rest % letters);
                        model.add(1 + rest % letters);
                    }
                    String word = model.word.toString();
                    CHECK.due(word + ": runs()", x.runs(), model.runs());
                    CHECK.due(word + ": twice()", x.twice(), model.twice());
                    CHECK.due(word + ": isMirror()", x.isMirror(), model.isMirror());
                    for (int g = 2; g <= 4; g++) CHECK.due(word + ": depth(" + g + ")", x.depth(g), model.depth(g));
                    int g = 1 + number % 4;
                    CHECK.due(word + ": shorten(" + g + ")", x.shorten(g), model.shorten(g));
                    CHECK.due(word + ": digest() shortened by " + g, x.digest(), model.digest());
                    if (number % 20 == 0) x = new SelfRows();
                }
            }
        }
    }

    private static void many() {
        int[] twos = {1, 2, 4, 6, 10, 14, 18, 26, 34, 42, 50, 62, 78, 94, 110};
        for (int n = 0; n <= 14; n++) CHECK.due("many(" + n + ", 2)", new SelfRows().many(n, 2), twos[n]);
        for (int n = 0; n <= 9; n++) CHECK.due("many(" + n + ", 3)", new SelfRows().many(n, 3), new Model().many(n, 3));
        for (int n = 0; n <= 14; n++) CHECK.due("model: many(" + n + ", 2)", new Model().many(n, 2), twos[n]);
        SelfRows x = with("3521");
        int[][] wrong = {
            {-1, 2}, {15, 2}, {MIN, 2}, {MAX, 2}, {-1, 3}, {10, 3}, {14, 3}, {MAX, 3},
            {0, 1}, {0, 4}, {3, 0}, {3, 6}, {3, -1}, {3, MIN}, {3, MAX}, {-1, 1}, {-1, 4},
        };
        for (int[] p : wrong) CHECK.due("many(" + p[0] + ", " + p[1] + ")", x.many(p[0], p[1]), OUTSIDE);
        CHECK.due("told(2) behind refusals", x.told(2), 0);
        for (int i = 1; i <= 10; i++) {
            CHECK.due("many(4, 3), the " + i + ". time", x.many(4, 3), 78);
            CHECK.due("told(2), the " + i + ". time", x.told(2), i);
        }
        CHECK.due("many(4, 3), the 11. time", x.many(4, 3), STATE);
        CHECK.due("many(0, 2), the 12. time", x.many(0, 2), STATE);
        CHECK.due("many(15, 2), refused before", x.many(15, 2), OUTSIDE);
        CHECK.due("told(2) behind all", x.told(2), 10);
        expectWord("many changes no word", x, "3521");
    }

    private static void isMirror() {
        String[] words = {"", "3", "11", "12", "121", "122", "1221", "1231", "12321", "12312", repeated("12", 30), repeated("1", 60)};
        int[] due = {1, 1, 1, 0, 1, 0, 1, 0, 1, 0, 0, 1};
        for (int i = 0; i < words.length; i++) CHECK.due("isMirror of " + words[i], with(words[i]).isMirror(), due[i]);
        SelfRows x = with("112");
        x.isMirror();
        expectWord("isMirror changes nothing", x, "112");
    }

    private static void twice() {
        String[] words = {
            "", "1", "11", "12", "121", "1212", "12123", "31212", "123123", "1231234", "12312", "1231223", "121323",
            "123456123456", "123456123455", repeated("123456", 10).substring(0, 11), repeated("123456", 10).substring(3, 15),
        };
        int[] due = {0, 0, 1, 0, 0, 2, 2, 2, 3, 3, 0, 1, 0, 6, 1, 0, 6};
        for (int i = 0; i < words.length; i++) CHECK.due("twice of " + words[i], with(words[i]).twice(), due[i]);
        String free = "121312141213121512131214121316";
        CHECK.due("nothing twice in 30", with(free).twice(), 0);
        CHECK.due("30 letters twice", with(free + free).twice(), 30);
        CHECK.due("30 letters, nearly twice", with(free + free.substring(0, 29) + "5").twice(), 0);
        SelfRows x = with("1212");
        x.twice();
        expectWord("twice changes nothing", x, "1212");
    }

    private static void find() {
        // 1221121221221121122121121221121121221221
        SelfRows x = with("2112");
        CHECK.due("find(0, 0, 50)", x.find(0, 0, 50), 2);
        CHECK.due("find(0, 2, 50)", x.find(0, 2, 50), 2);
        CHECK.due("find(0, 3, 50)", x.find(0, 3, 50), 11);
        CHECK.due("find(0, 11, 15)", x.find(0, 11, 15), 11);
        CHECK.due("find(0, 3, 14)", x.find(0, 3, 14), NONE);
        CHECK.due("find(0, 0, 6)", x.find(0, 0, 6), 2);
        CHECK.due("find(0, 0, 5)", x.find(0, 0, 5), NONE);
        CHECK.due("find(0, 9, 3)", x.find(0, 9, 3), NONE);
        CHECK.due("find(0, 100000, 100000)", x.find(0, 100000, 100000), NONE);
        CHECK.due("find(0, 100000, 0)", x.find(0, 100000, 0), NONE);
        x.take(0, 99940, 60);
        CHECK.due("the last 60: find(0, 99940, 100000)", x.find(0, 99940, 100000), 99940);
        CHECK.due("the last 60: find(0, 99941, 100000)", x.find(0, 99941, 100000), NONE);
        CHECK.due("the last 60: find(0, 99940, 99999)", x.find(0, 99940, 99999), NONE);
        Model model = new Model();
        model.take(0, 99940, 60);
        CHECK.due("the last 60: find(0, 0, 100000)", x.find(0, 0, 100000), model.find(0, 0, 100000));
        x.clear();
        CHECK.due("nothing: find(0, 0, 0)", x.find(0, 0, 0), 0);
        CHECK.due("nothing: find(0, 7, 9)", x.find(0, 7, 9), 7);
        CHECK.due("nothing: find(0, 9, 9)", x.find(0, 9, 9), 9);
        CHECK.due("nothing: find(0, 10, 9)", x.find(0, 10, 9), NONE);
        CHECK.due("nothing: find(0, 100000, 100000)", x.find(0, 100000, 100000), 100000);
        x.add(3);
        CHECK.due("a letter of no row", x.find(0, 0, 100000), NONE);
        x.alphabet(1, 2, 2, 3, 0, 0);
        x.ring(2, 0, 1, 0);
        CHECK.due("3 in row 1", x.find(1, 0, 100), 1);
        CHECK.due("3 in row 1, from 2 on", x.find(1, 2, 100), 4);
        CHECK.due("3 in row 0", x.find(0, 0, 100), NONE);
    }

    private static void findRefused() {
        SelfRows x = with("2112");
        CHECK.due("find(1, -1, -1)", x.find(1, -1, -1), UNKNOWN);
        CHECK.due("find(-1, 0, 9)", x.find(-1, 0, 9), UNKNOWN);
        CHECK.due("find(MIN, 0, 9)", x.find(MIN, 0, 9), UNKNOWN);
        int[] wrong = {-1, 100001, MIN, MAX};
        for (int far : wrong) {
            CHECK.due("find(0, " + far + ", 50)", x.find(0, far, 50), OUTSIDE);
            CHECK.due("find(0, 0, " + far + ")", x.find(0, 0, far), OUTSIDE);
        }
        expectWord("find changes nothing", x, "2112");
    }

    private static void unlike() {
        SelfRows x = new SelfRows();
        CHECK.due("unlike(0, 1, 0)", x.unlike(0, 1, 0), 0);
        CHECK.due("unlike(0, 1, 1)", x.unlike(0, 1, 1), 1);
        CHECK.due("unlike(0, 1, 2)", x.unlike(0, 1, 2), 2);
        CHECK.due("unlike(0, 1, 2000)", x.unlike(0, 1, 2000), 2);
        CHECK.due("unlike(0, 2, 4)", x.unlike(0, 2, 4), 3);
        CHECK.due("unlike(0, 2, 5)", x.unlike(0, 2, 5), 4);
        CHECK.due("unlike(0, 3, 2000)", x.unlike(0, 3, 2000), 6);
        CHECK.due("unlike(0, 7, 2000)", x.unlike(0, 7, 2000), 26);
        CHECK.due("unlike(0, 20, 19)", x.unlike(0, 20, 19), 0);
        CHECK.due("unlike(0, 20, 20)", x.unlike(0, 20, 20), 1);
        Model model = new Model();
        for (int m = 1; m <= 20; m++) CHECK.due("unlike(0, " + m + ", 2000)", x.unlike(0, m, 2000), model.unlike(0, m, 2000));
        x = new SelfRows();
        model = new Model();
        x.alphabet(1, 4, 1, 6, 2, 5);
        model.alphabet(1, 4, 1, 6, 2, 5);
        x.alphabet(2, 4, 3, 4, 1, 2);
        model.alphabet(2, 4, 3, 4, 1, 2);
        x.ring(2, 1, 2, 0);
        model.ring(2, 1, 2, 0);
        for (int row = 0; row < 2; row++) {
            for (int m = 1; m <= 20; m++) {
                String call = "unlike(" + row + ", " + m + ", " + (2000 - m) + ")";
                CHECK.due(call, x.unlike(row, m, 2000 - m), model.unlike(row, m, 2000 - m));
            }
        }
    }

    /** So many stretches, of so many rows, that they meet wherever a table of them has its ends. */
    private static void unlikeOfManyRows() {
        for (int w = 1; w <= 6; w++) {
            for (int y = 1; y <= 6; y++) {
                int v = w % 6 + 1, z = (w + 2) % 6 + 1;
                if (y == v || y == z) continue;
                SelfRows x = new SelfRows();
                Model model = new Model();
                x.alphabet(0, 4, w, v, y, z);
                model.alphabet(0, 4, w, v, y, z);
                x.alphabet(1, 3, z, w, v, 0);
                model.alphabet(1, 3, z, w, v, 0);
                x.ring(3, 0, 1, 0);
                model.ring(3, 0, 1, 0);
                for (int m = 12; m <= 20; m += 2) {
                    for (int row = 0; row < 3; row++) {
                        String call = "letters " + w + v + y + z + ": unlike(" + row + ", " + m + ", 2000)";
                        CHECK.due(call, x.unlike(row, m, 2000), model.unlike(row, m, 2000));
                    }
                }
            }
        }
    }

    private static void unlikeRefused() {
        SelfRows x = with("21");
        int[] far = {1, -1, MIN, MAX};
        for (int row : far) CHECK.due("unlike(" + row + ", 0, -1)", x.unlike(row, 0, -1), UNKNOWN);
        int[] lengths = {0, 21, -1, MIN, MAX};
        for (int m : lengths) CHECK.due("unlike(0, " + m + ", 5)", x.unlike(0, m, 5), OUTSIDE);
        int[] many = {-1, 2001, 100000, MIN, MAX};
        for (int n : many) CHECK.due("unlike(0, 3, " + n + ")", x.unlike(0, 3, n), OUTSIDE);
        CHECK.due("told(3) behind refusals", x.told(3), 0);
        for (int i = 1; i <= 40; i++) {
            CHECK.due("unlike(0, 2, 4), the " + i + ". time", x.unlike(0, 2, 4), 3);
            CHECK.due("told(3), the " + i + ". time", x.told(3), i);
        }
        CHECK.due("unlike(0, 2, 4), the 41. time", x.unlike(0, 2, 4), STATE);
        CHECK.due("unlike(0, 1, 0), the 42. time", x.unlike(0, 1, 0), STATE);
        CHECK.due("unlike(1, 2, 4), refused before", x.unlike(1, 2, 4), UNKNOWN);
        CHECK.due("unlike(0, 21, 4), refused before", x.unlike(0, 21, 4), OUTSIDE);
        CHECK.due("unlike(0, 2, 2001), refused before", x.unlike(0, 2, 2001), OUTSIDE);
        CHECK.due("told(3) behind all", x.told(3), 40);
        CHECK.due("told(2) behind all", x.told(2), 0);
        expectWord("unlike changes no word", x, "21");
    }

    private static void told() {
        SelfRows x = with("13");
        x.ring(3, 0, 0, 0);
        x.alphabet(0, 4, 1, 2, 3, 4);
        x.alphabet(2, 3, 1, 2, 3, 0);
        x.many(1, 2);
        x.unlike(2, 3, 4);
        x.unlike(2, 3, 4);
        x.unlike(2, 3, 4);
        int[] due = {3, 2, 1, 3, 4, 2, 3, 2};
        for (int what = 0; what < 8; what++) CHECK.due("told(" + what + ")", x.told(what), due[what]);
        int[] wrong = {-1, 8, -4, MIN, MIN + 3, MAX};
        for (int what : wrong) CHECK.due("told(" + what + ")", x.told(what), OUTSIDE);
    }

    private static long mixed(int... numbers) {
        long h = 163;
        for (int number : numbers) h = 31 * h + number;
        return h;
    }

    private static void digest() {
        SelfRows x = new SelfRows();
        CHECK.due("new", x.digest(), mixed(1, 2, 1, 2, 1, 2, 1, 2, 0, 0, 0));
        x.alphabet(1, 4, 3, 1, 6, 2);
        x.alphabet(2, 3, 5, 4, 1, 2);
        CHECK.due("alphabets", x.digest(), mixed(1, 2, 3, 1, 6, 2, 5, 4, 1, 1, 2, 0, 0, 0));
        x.ring(3, 2, 1, 3);
        CHECK.due("ring", x.digest(), mixed(1, 2, 3, 1, 6, 2, 5, 4, 1, 1, 2, 2, 1, 3, 0, 0));
        x.add(4);
        x.add(6);
        CHECK.due("word", x.digest(), mixed(1, 2, 3, 1, 6, 2, 5, 4, 1, 1, 2, 2, 1, 3, 4, 6, 0, 0));
        x.many(2, 2);
        x.many(3, 2);
        x.unlike(0, 2, 8);
        CHECK.due("counts", x.digest(), mixed(1, 2, 3, 1, 6, 2, 5, 4, 1, 1, 2, 2, 1, 3, 4, 6, 2, 1));
        x.ring(2, 0, 1, 3);
        x.clear();
        x.alphabet(1, 2, 3, 1, 6, 2);
        CHECK.due("less again", x.digest(), mixed(1, 2, 3, 1, 5, 4, 1, 1, 2, 0, 1, 2, 1));
        CHECK.due("digest changes nothing", x.digest(), mixed(1, 2, 3, 1, 5, 4, 1, 1, 2, 0, 1, 2, 1));
    }
}
