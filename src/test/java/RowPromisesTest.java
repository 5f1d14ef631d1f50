/** Promises 1 to 9: a new object, alphabets, the ring, and what is asked of rows. */
public final class RowPromisesTest {
    private static final int NONE = -1, UNKNOWN = -101, OUTSIDE = -102;
    private static final int MIN = Integer.MIN_VALUE, MAX = Integer.MAX_VALUE;
    /** The row with letters 1, 2 that tells itself, as it is known from books. */
    private static final String FIRST = "1221121221221121122121121221121121221221121221211211221221121221221121121221211221221121221221121122121";
    private static final Check CHECK = new Check();

    public static void main(String[] args) {
        newObject();
        alphabet();
        alphabetRefused();
        alphabetOfRowsInUse();
        ring();
        ringRefused();
        at();
        atInRings();
        count();
        sum();
        run();
        begins();
        off();
        nearRoundPlaces();
        CHECK.end();
    }

    private static void newObject() {
        SelfRows x = new SelfRows();
        CHECK.due("NONE", SelfRows.NONE, -1);
        CHECK.due("UNKNOWN", SelfRows.UNKNOWN, -101);
        CHECK.due("OUTSIDE", SelfRows.OUTSIDE, -102);
        CHECK.due("STATE", SelfRows.STATE, -103);
        CHECK.due("FULL", SelfRows.FULL, -104);
        CHECK.due("new: told(0)", x.told(0), 1);
        CHECK.due("new: told(1)", x.told(1), 0);
        CHECK.due("new: told(2)", x.told(2), 0);
        CHECK.due("new: told(3)", x.told(3), 0);
        for (int a = 0; a < 4; a++) CHECK.due("new: told(" + (4 + a) + ")", x.told(4 + a), 2);
        long h = 163;
        for (int a = 0; a < 4; a++) h = 31 * (31 * h + 1) + 2;
        h = 31 * h;
        CHECK.due("new: digest()", x.digest(), 31 * 31 * h);
        CHECK.due("new: letter(0)", x.letter(0), NONE);
        CHECK.due("new: at(1, 0)", x.at(1, 0), UNKNOWN);
        for (int a = 0; a < 4; a++) {
            CHECK.due("ring(1, " + a + ", 0, 0)", x.ring(1, a, 0, 0), 1);
            expectRow("new, alphabet " + a, x, 0, FIRST);
        }
    }

    private static void expectRow(String name, SelfRows x, int row, String digits) {
        for (int k = 0; k < digits.length(); k++) {
            CHECK.due(name + ": at(" + row + ", " + k + ")", x.at(row, k), digits.charAt(k) - '0');
        }
    }

    private static void alphabet() {
        SelfRows x = new SelfRows();
        CHECK.due("alphabet 0", x.alphabet(0, 2, 2, 1, 0, 0), 2);
        CHECK.due("told(4)", x.told(4), 2);
        expectRow("2, 1", x, 0, "22112122122112112212");
        CHECK.due("alphabet 1 of four", x.alphabet(1, 4, 1, 2, 1, 3), 4);
        CHECK.due("told(5)", x.told(5), 4);
        x.ring(1, 1, 0, 0);
        expectRow("1, 2, 1, 3", x, 0, "1221131222133112");
        CHECK.due("alphabet 2 of three", x.alphabet(2, 3, 6, 1, 5, 6), 3);
        CHECK.due("told(6)", x.told(6), 3);
        x.ring(1, 2, 0, 0);
        expectRow("6, 1, 5", x, 0, "6666661111115555556666661111115555556156156666611111");
        CHECK.due("what lies behind n is free", x.alphabet(3, 2, 1, 3, 3, MIN), 2);
        CHECK.due("and may be far off", x.alphabet(3, 3, 1, 3, 2, MAX), 3);
        CHECK.due("the last and the first of four", x.alphabet(3, 4, 5, 6, 5, 6), 4);
        CHECK.due("told(7)", x.told(7), 4);
    }

    private static void alphabetRefused() {
        SelfRows x = new SelfRows();
        long before = x.digest();
        int[] far = {-1, 4, MIN, MAX};
        for (int a : far) CHECK.due("alphabet " + a, x.alphabet(a, 9, 0, 0, 0, 0), UNKNOWN);
        int[] sizes = {1, 5, 0, -1, MIN, MAX};
        for (int n : sizes) CHECK.due("alphabet of " + n, x.alphabet(0, n, 1, 2, 3, 4), OUTSIDE);
        int[] wrong = {0, 7, -1, MIN, MAX};
        for (int v : wrong) {
            CHECK.due("first letter " + v, x.alphabet(0, 2, v, 2, 0, 0), OUTSIDE);
            CHECK.due("second letter " + v, x.alphabet(0, 2, 1, v, 0, 0), OUTSIDE);
            CHECK.due("third letter " + v, x.alphabet(0, 3, 1, 2, v, 0), OUTSIDE);
            CHECK.due("fourth letter " + v, x.alphabet(0, 4, 1, 2, 3, v), OUTSIDE);
        }
        int[][] alike = {
            {2, 3, 3, 0, 0}, {3, 1, 1, 2, 0}, {3, 1, 2, 2, 0}, {3, 1, 2, 1, 0},
            {4, 1, 1, 2, 3}, {4, 1, 2, 2, 3}, {4, 1, 2, 3, 3}, {4, 1, 2, 3, 1},
        };
        for (int[] p : alike) {
            CHECK.due("alike: " + p[0] + p[1] + p[2] + p[3] + p[4], x.alphabet(0, p[0], p[1], p[2], p[3], p[4]), OUTSIDE);
        }
        CHECK.due("digest behind refusals", x.digest(), before);
        expectRow("behind refusals", x, 0, FIRST.substring(0, 20));
    }

    /** A row has an alphabet by its number: it goes with what is changed there. */
    private static void alphabetOfRowsInUse() {
        SelfRows x = new SelfRows();
        x.at(0, 90000);
        x.alphabet(0, 2, 1, 3, 0, 0);
        expectRow("changed to 1, 3", x, 0, "1333111333131333111333");
        CHECK.due("changed to 1, 3: sum", x.sum(0, 10), 22);
        x.alphabet(3, 2, 4, 6, 0, 0);
        expectRow("another one is changed", x, 0, "1333111333131333111333");
        CHECK.due("changed back", x.alphabet(0, 2, 1, 2, 0, 0), 2);
        CHECK.due("changed back: count", x.count(0, 1, 100000), 49972);
    }

    private static void ring() {
        SelfRows x = new SelfRows();
        x.alphabet(1, 2, 2, 3, 0, 0);
        x.alphabet(2, 3, 3, 1, 2, 0);
        CHECK.due("ring of 2", x.ring(2, 0, 1, -7), 2);
        CHECK.due("told(0) of 2", x.told(0), 2);
        expectRow("row 0 of 2", x, 0, "112221122111222");
        expectRow("row 1 of 2", x, 1, "23223322323322323223322323322323");
        CHECK.due("row 2 of 2", x.at(2, 0), UNKNOWN);
        CHECK.due("ring of 3", x.ring(3, 2, 0, 1), 3);
        CHECK.due("told(0) of 3", x.told(0), 3);
        CHECK.due("row 3 of 3", x.at(3, 0), UNKNOWN);
        CHECK.due("row 2 of 3", x.at(2, 0), 2);
        CHECK.due("ring of 1", x.ring(1, 0, MAX, MIN), 1);
        CHECK.due("told(0) of 1", x.told(0), 1);
        CHECK.due("row 1 of 1", x.at(1, 0), UNKNOWN);
        expectRow("row 0 of 1", x, 0, FIRST.substring(0, 30));
        CHECK.due("ring of 3, like alphabets", x.ring(3, 0, 0, 3), 3);
        for (int row = 0; row < 3; row++) expectRow("like alphabets", x, row, FIRST.substring(0, 50));
    }

    private static void ringRefused() {
        SelfRows x = new SelfRows();
        x.ring(2, 1, 3, 0);
        long before = x.digest();
        int[] sizes = {0, 4, -1, MIN, MAX};
        for (int n : sizes) CHECK.due("ring of " + n, x.ring(n, 9, 9, 9), OUTSIDE);
        int[] far = {-1, 4, MIN, MAX};
        for (int a : far) {
            CHECK.due("first alphabet " + a, x.ring(1, a, 0, 0), UNKNOWN);
            CHECK.due("second alphabet " + a, x.ring(2, 0, a, 0), UNKNOWN);
            CHECK.due("third alphabet " + a, x.ring(3, 0, 0, a), UNKNOWN);
        }
        CHECK.due("digest behind refusals", x.digest(), before);
        CHECK.due("told(0) behind refusals", x.told(0), 2);
    }

    /** Rows and places that are refused, by calls with a row and a place alone. */
    private static int[][] refused() {
        return new int[][] {
            {1, 0, UNKNOWN}, {-1, 0, UNKNOWN}, {2, -1, UNKNOWN}, {MIN, 5, UNKNOWN}, {MAX, 100001, UNKNOWN},
            {0, -1, OUTSIDE}, {0, 100001, OUTSIDE}, {0, MIN, OUTSIDE}, {0, MAX, OUTSIDE},
        };
    }

    private static void at() {
        SelfRows x = new SelfRows();
        expectRow("at", x, 0, FIRST);
        x = new SelfRows();
        CHECK.due("at(0, 100000)", x.at(0, 100000), 1);
        CHECK.due("at(0, 99999)", x.at(0, 99999), 2);
        expectRow("at, behind far ones", x, 0, FIRST);
        for (int[] p : refused()) CHECK.due("at(" + p[0] + ", " + p[1] + ")", x.at(p[0], p[1]), p[2]);
    }

    private static void atInRings() {
        int[][] rings = {{1, 1, 0, 0}, {2, 1, 2, 0}, {3, 3, 2, 1}, {3, 1, 1, 2}, {2, 3, 3, 0}, {3, 0, 3, 2}};
        for (int[] p : rings) {
            SelfRows x = new SelfRows();
            Model model = new Model();
            x.alphabet(1, 4, 1, 3, 1, 6);
            model.alphabet(1, 4, 1, 3, 1, 6);
            x.alphabet(2, 3, 5, 4, 6, 0);
            model.alphabet(2, 3, 5, 4, 6, 0);
            x.ring(p[0], p[1], p[2], p[3]);
            model.ring(p[0], p[1], p[2], p[3]);
            for (int row = p[0] - 1; row >= 0; row--) {
                for (int k = row; k <= 100000; k += k < 40 ? 1 : 1777) {
                    String call = "ring " + p[1] + p[2] + p[3] + ": at(" + row + ", " + k + ")";
                    CHECK.due(call, x.at(row, k), model.at(row, k));
                }
                CHECK.due("at(" + row + ", 100000)", x.at(row, 100000), model.at(row, 100000));
            }
        }
    }

    private static void count() {
        SelfRows x = new SelfRows();
        CHECK.due("count(0, 1, 10)", x.count(0, 1, 10), 5);
        CHECK.due("count(0, 1, 100)", x.count(0, 1, 100), 49);
        CHECK.due("count(0, 1, 1000)", x.count(0, 1, 1000), 502);
        CHECK.due("count(0, 1, 10000)", x.count(0, 1, 10000), 4996);
        CHECK.due("count(0, 1, 100000)", x.count(0, 1, 100000), 49972);
        CHECK.due("count(0, 2, 100000)", x.count(0, 2, 100000), 50028);
        CHECK.due("count(0, 2, 99999)", x.count(0, 2, 99999), 50027);
        CHECK.due("count(0, 1, 0)", x.count(0, 1, 0), 0);
        CHECK.due("count(0, 1, 1)", x.count(0, 1, 1), 1);
        CHECK.due("count(0, 2, 1)", x.count(0, 2, 1), 0);
        int[] others = {3, 6, 0, 7, -1, MIN, MAX};
        for (int v : others) CHECK.due("count(0, " + v + ", 5000)", x.count(0, v, 5000), 0);
        for (int[] p : refused()) CHECK.due("count(" + p[0] + ", 1, " + p[1] + ")", x.count(p[0], 1, p[1]), p[2]);
        int ones = 0;
        x = new SelfRows();
        for (int n = 0; n <= 100; n++) {
            CHECK.due("count(0, 1, " + n + ")", x.count(0, 1, n), ones);
            if (FIRST.charAt(n) == '1') ones++;
        }
    }

    private static void sum() {
        SelfRows x = new SelfRows();
        CHECK.due("sum(0, 0)", x.sum(0, 0), 0);
        CHECK.due("sum(0, 1)", x.sum(0, 1), 1);
        CHECK.due("sum(0, 10)", x.sum(0, 10), 15);
        CHECK.due("sum(0, 100000)", x.sum(0, 100000), 150028);
        for (int[] p : refused()) CHECK.due("sum(" + p[0] + ", " + p[1] + ")", x.sum(p[0], p[1]), p[2]);
        Model model = new Model();
        x.alphabet(1, 4, 1, 3, 2, 6);
        x.alphabet(2, 3, 5, 4, 6, 0);
        x.ring(2, 1, 2, 0);
        model.alphabet(1, 4, 1, 3, 2, 6);
        model.alphabet(2, 3, 5, 4, 6, 0);
        model.ring(2, 1, 2, 0);
        int[] many = {255, 256, 257, 511, 512, 513, 40000, 99840, 99999, 100000, 3};
        for (int n : many) {
            for (int row = 0; row < 2; row++) {
                CHECK.due("ring: sum(" + row + ", " + n + ")", x.sum(row, n), model.sum(row, n));
                for (int v = 1; v <= 6; v++) {
                    CHECK.due("ring: count(" + row + ", " + v + ", " + n + ")", x.count(row, v, n), model.count(row, v, n));
                }
            }
        }
    }

    private static void run() {
        SelfRows x = new SelfRows();
        int run = 0;
        for (int k = 0; k < 100; k++) {
            if (k > 0 && FIRST.charAt(k) != FIRST.charAt(k - 1)) run++;
            CHECK.due("run(0, " + k + ")", x.run(0, k), run);
        }
        for (int[] p : refused()) CHECK.due("run(" + p[0] + ", " + p[1] + ")", x.run(p[0], p[1]), p[2]);
        Model model = new Model();
        int[] places = {254, 255, 256, 257, 511, 512, 99839, 99840, 99999, 100000};
        for (int k : places) CHECK.due("run(0, " + k + ")", x.run(0, k), model.run(0, k));
    }

    private static void begins() {
        SelfRows x = new SelfRows();
        int run = 0;
        for (int k = 0; k < 100; k++) {
            if (k > 0 && FIRST.charAt(k) == FIRST.charAt(k - 1)) continue;
            CHECK.due("begins(0, " + run + ")", x.begins(0, run), k);
            run++;
        }
        for (int[] p : refused()) CHECK.due("begins(" + p[0] + ", " + p[1] + ")", x.begins(p[0], p[1]), p[2]);
        CHECK.due("begins(0, 100000)", x.begins(0, 100000), NONE);
        beginsAtTheEnd(new int[] {1, 0, 0, 0}, new int[] {1, 2});
        beginsAtTheEnd(new int[] {3, 0, 1, 1}, new int[] {1, 2});
        for (int v = 2; v <= 6; v++) beginsAtTheEnd(new int[] {1, 1, 0, 0}, new int[] {1, v});
        for (int v = 2; v <= 6; v++) beginsAtTheEnd(new int[] {2, 1, 0, 0}, new int[] {v, 1});
    }

    /** The runs about place 100000: each begins at its place, none behind it. */
    private static void beginsAtTheEnd(int[] ring, int[] letters) {
        SelfRows x = new SelfRows();
        Model model = new Model();
        x.alphabet(1, 2, letters[0], letters[1], 0, 0);
        model.alphabet(1, 2, letters[0], letters[1], 0, 0);
        x.ring(ring[0], ring[1], ring[2], ring[3]);
        model.ring(ring[0], ring[1], ring[2], ring[3]);
        for (int row = 0; row < ring[0]; row++) {
            int last = model.run(row, 100000);
            for (int j = last - 3; j <= last + 3; j++) {
                String call = "letters " + letters[0] + letters[1] + ": begins(" + row + ", " + j + ")";
                CHECK.due(call, x.begins(row, j), model.begins(row, j));
            }
        }
    }

    private static void off() {
        SelfRows x = new SelfRows();
        CHECK.due("off(0, 1, 2, 0)", x.off(0, 1, 2, 0), 0);
        CHECK.due("off(0, 1, 2, 1)", x.off(0, 1, 2, 1), 1);
        CHECK.due("off(0, 2, 2, 1)", x.off(0, 2, 2, 1), 1);
        CHECK.due("off(0, 2, 2, 3)", x.off(0, 2, 2, 3), 1);
        CHECK.due("off(0, 1, 6, 5)", x.off(0, 1, 6, 5), 13);
        CHECK.due("off(0, 1, 3, 3)", x.off(0, 1, 3, 3), 2);
        CHECK.due("a greatest one that has passed", x.off(0, 1, 2, 7), 1);
        CHECK.due("off(0, 7, 2, 1000)", x.off(0, 7, 2, 1000), 1000);
        CHECK.due("off(0, -1, 6, 100000)", x.off(0, -1, 6, 100000), 100000);
        int[] shares = {1, 7, 0, -1, MIN, MAX};
        for (int share : shares) {
            CHECK.due("off(0, 1, " + share + ", 5)", x.off(0, 1, share, 5), OUTSIDE);
            CHECK.due("off(1, 1, " + share + ", 5)", x.off(1, 1, share, 5), UNKNOWN);
        }
        for (int[] p : refused()) CHECK.due("off(" + p[0] + ", 1, 2, " + p[1] + ")", x.off(p[0], 1, 2, p[1]), p[2]);
        Model model = new Model();
        int[] many = {100, 256, 3000, 99999, 100000};
        for (int n : many) {
            for (int share = 2; share <= 6; share++) {
                for (int v = 1; v <= 3; v++) {
                    String call = "off(0, " + v + ", " + share + ", " + n + ")";
                    CHECK.due(call, x.off(0, v, share, n), model.off(0, v, share, n));
                }
            }
        }
    }

    /** About powers of two, hundreds and thousands, where counts might be kept. */
    private static void nearRoundPlaces() {
        Model model = new Model();
        model.alphabet(1, 4, 1, 3, 2, 6);
        model.ring(2, 0, 1, 0);
        int[] rounds = {16, 32, 50, 64, 100, 128, 250, 256, 500, 512, 1000, 1024, 2000, 2048, 4096, 5000, 8192, 10000, 16384, 32768, 50000, 65536};
        for (int round : rounds) {
            SelfRows x = new SelfRows();
            x.alphabet(1, 4, 1, 3, 2, 6);
            x.ring(2, 0, 1, 0);
            int last = 100000 - 100000 % round;
            int[] places = {round - 1, round, round + 1, 2 * round - 1, 2 * round, 2 * round + 1, last - 1, last};
            for (int n : places) {
                for (int row = 0; row < 2; row++) {
                    if (n > 100000) continue;
                    CHECK.due("round: count(" + row + ", 1, " + n + ")", x.count(row, 1, n), model.count(row, 1, n));
                    CHECK.due("round: sum(" + row + ", " + n + ")", x.sum(row, n), model.sum(row, n));
                    CHECK.due("round: run(" + row + ", " + n + ")", x.run(row, n), model.run(row, n));
                    CHECK.due("round: begins(" + row + ", " + n + ")", x.begins(row, n), model.begins(row, n));
                    CHECK.due("round: at(" + row + ", " + n + ")", x.at(row, n), model.at(row, n));
                }
            }
        }
    }
}
