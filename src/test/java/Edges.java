import java.util.function.ToLongFunction;

/** Runs the tests of edges, each under a name that tells its promise, and looks that a refused call changes nothing. */
final class Edges {
    /** The first 60 numbers of the row of a new object, as they are known from books. */
    static final String FIRST = "122112122122112112212112122112112122122112122121121122122112";

    /** Places, or how many, that are not 0 to 100000. */
    static final int[] TOO_FAR = {-1, -2, Integer.MIN_VALUE, 100001, 100002, Integer.MAX_VALUE};

    /** Rows that a ring of two has not. */
    static final int[] NO_ROWS = {-1, Integer.MIN_VALUE, 2, 3, Integer.MAX_VALUE};

    private int failed = 0;
    private boolean holds = true;

    void test(String edge, Runnable test) {
        holds = true;
        test.run();
        if (holds) return;
        failed++;
        System.out.println("does not hold: " + edge);
    }

    void due(String call, long got, long want) {
        if (got == want) return;
        holds = false;
        System.out.println(call + " answered " + got + ", due is " + want);
    }

    /** The letters of the word, as digits. */
    void dueWord(String name, SelfRows x, String want) {
        dueText(name + ", the word", wordOf(x), want);
        due(name + ", told(1)", x.told(1), want.length());
    }

    /** The first numbers of a row, as digits. */
    void dueRow(String name, SelfRows x, int row, String want) {
        StringBuilder got = new StringBuilder();
        for (int k = 0; k < want.length(); k++) got.append(x.at(row, k));
        dueText(name + ", row " + row, got.toString(), want);
    }

    /** Calls on an object on which nothing is at its beginning; no such call changes what the object tells. */
    void refused(String call, ToLongFunction<SelfRows> asked, long want) {
        refused(call, used(), asked, want);
    }

    void refused(String call, SelfRows x, ToLongFunction<SelfRows> asked, long want) {
        String before = stateOf(x);
        due(call, asked.applyAsLong(x), want);
        dueText(call + ", what the object tells behind it", stateOf(x), before);
    }

    /** Two rows (0 and 1), the word 1221; many() was done once, unlike() twice. */
    static SelfRows used() {
        SelfRows x = with("1221");
        x.alphabet(1, 4, 1, 3, 1, 6);
        x.alphabet(2, 3, 5, 4, 6, 0);
        x.ring(2, 1, 2, 0);
        x.many(2, 2);
        x.unlike(0, 2, 5);
        x.unlike(1, 2, 5);
        return x;
    }

    static SelfRows with(String word) {
        SelfRows x = new SelfRows();
        for (int i = 0; i < word.length(); i++) x.add(word.charAt(i) - '0');
        return x;
    }

    /** All that an object tells of itself, by some 120 calls. */
    private static String stateOf(SelfRows x) {
        StringBuilder state = new StringBuilder();
        for (int what = 0; what <= 7; what++) state.append(x.told(what)).append(' ');
        state.append(x.digest()).append(" word ").append(wordOf(x));
        for (int row = 0; row < 3; row++) {
            state.append(" row ").append(row).append(' ');
            for (int k = 0; k < 12; k++) state.append(x.at(row, k));
            state.append(' ').append(x.at(row, 100000)).append(' ').append(x.sum(row, 100000));
        }
        return state.toString();
    }

    private static String wordOf(SelfRows x) {
        StringBuilder word = new StringBuilder();
        for (int i = 0; i <= 60; i++) {
            int v = x.letter(i);
            if (v != SelfRows.NONE) word.append(v);
        }
        return word.toString();
    }

    private void dueText(String name, String got, String want) {
        if (got.equals(want)) return;
        holds = false;
        System.out.println(name + ": is " + got + ", due is " + want);
    }

    /** Ends the program, with exit code 1 if an edge does not hold. */
    void end() {
        System.exit(failed == 0 ? 0 : 1);
    }
}
