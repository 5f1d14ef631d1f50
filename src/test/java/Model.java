import java.util.ArrayList;
import java.util.Arrays;
import java.util.Collections;
import java.util.HashSet;
import java.util.List;
import java.util.Set;

/**
 * The document once more, in the plainest way and without any thrift, to be compared with SelfRows.
 * It shares no code with it: rows are made whole and at once, and everything is counted from the first number on.
 */
final class Model {
    static final int NONE = -1, UNKNOWN = -101, OUTSIDE = -102, STATE = -103, FULL = -104;
    static final int LAST = 100000;

    final int[][] alphabets = {{1, 2}, {1, 2}, {1, 2}, {1, 2}};
    int[] ring = {0};
    List<Integer> word = new ArrayList<>();
    int manyDone = 0;
    int unlikeDone = 0;
    /** rows[i] and starts[i] (where its runs begin); null: not made. */
    private int[][] rows = null;
    private int[][] starts = null;

    // ---- alphabets, the ring

    int alphabet(int a, int n, int w, int x, int y, int z) {
        if (a < 0 || a > 3) return UNKNOWN;
        if (n < 2 || n > 4) return OUTSIDE;
        int[] letters = Arrays.copyOf(new int[] {w, x, y, z}, n);
        for (int i = 0; i < n; i++) {
            if (letters[i] < 1 || letters[i] > 6 || letters[i] == letters[(i + 1) % n]) return OUTSIDE;
        }
        alphabets[a] = letters;
        rows = null;
        return n;
    }

    int ring(int n, int a, int b, int c) {
        if (n < 1 || n > 3) return OUTSIDE;
        int[] next = Arrays.copyOf(new int[] {a, b, c}, n);
        for (int named : next) if (named < 0 || named > 3) return UNKNOWN;
        ring = next;
        rows = null;
        return n;
    }

    // ---- rows

    /** All rows grow side by side, a run at a time, each as soon as its length is told. */
    private void makeRows() {
        if (rows != null) return;
        int n = ring.length;
        int space = LAST + 10;
        rows = new int[n][space];
        starts = new int[n][space];
        int[] made = new int[n];
        int[] runs = new int[n];
        boolean grew = true;
        while (grew) {
            grew = false;
            for (int i = 0; i < n; i++) {
                int next = (i + 1) % n;
                int j = runs[i];
                if (made[i] > LAST || j > made[next]) continue;
                int[] own = alphabets[ring[i]];
                int[] others = alphabets[ring[next]];
                int length = j < made[next] ? rows[next][j] : others[runs[next] % others.length];
                starts[i][j] = made[i];
                runs[i]++;
                for (int k = 0; k < length; k++) rows[i][made[i]++] = own[j % own.length];
                grew = true;
            }
        }
        for (int i = 0; i < n; i++) {
            if (made[i] <= LAST) throw new IllegalStateException("row " + i + " came to a stop");
            starts[i] = Arrays.copyOf(starts[i], runs[i]);
        }
    }

    private boolean noRow(int row) {
        return row < 0 || row >= ring.length;
    }

    private static boolean not(int number, int least, int most) {
        return number < least || number > most;
    }

    int at(int row, int k) {
        if (noRow(row)) return UNKNOWN;
        if (not(k, 0, LAST)) return OUTSIDE;
        makeRows();
        return rows[row][k];
    }

    int count(int row, int v, int n) {
        if (noRow(row)) return UNKNOWN;
        if (not(n, 0, LAST)) return OUTSIDE;
        makeRows();
        int found = 0;
        for (int k = 0; k < n; k++) found += rows[row][k] == v ? 1 : 0;
        return found;
    }

    int sum(int row, int n) {
        if (noRow(row)) return UNKNOWN;
        if (not(n, 0, LAST)) return OUTSIDE;
        makeRows();
        int sum = 0;
        for (int k = 0; k < n; k++) sum += rows[row][k];
        return sum;
    }

    int run(int row, int k) {
        if (noRow(row)) return UNKNOWN;
        if (not(k, 0, LAST)) return OUTSIDE;
        makeRows();
        int run = 0;
        for (int j = 0; j < starts[row].length; j++) if (starts[row][j] <= k) run = j;
        return run;
    }

    int begins(int row, int j) {
        if (noRow(row)) return UNKNOWN;
        if (not(j, 0, LAST)) return OUTSIDE;
        makeRows();
        if (j >= starts[row].length || starts[row][j] > LAST) return NONE;
        return starts[row][j];
    }

    int off(int row, int v, int share, int n) {
        if (noRow(row)) return UNKNOWN;
        if (not(n, 0, LAST) || not(share, 2, 6)) return OUTSIDE;
        makeRows();
        int found = 0;
        int most = 0;
        for (int k = 0; k <= n; k++) {
            int difference = found * share > k ? found * share - k : k - found * share;
            if (difference > most) most = difference;
            if (rows[row][k] == v) found++;
        }
        return most;
    }

    // ---- the word

    int add(int v) {
        if (not(v, 1, 6)) return OUTSIDE;
        if (word.size() == 60) return FULL;
        word.add(v);
        return word.size();
    }

    int take(int row, int k, int n) {
        if (noRow(row)) return UNKNOWN;
        if (not(k, 0, LAST) || not(n, 0, 60)) return OUTSIDE;
        for (int i = 0; i < n; i++) if (k + i > LAST) return OUTSIDE;
        makeRows();
        word = new ArrayList<>();
        for (int i = 0; i < n; i++) word.add(rows[row][k + i]);
        return n;
    }

    int clear() {
        int had = word.size();
        word = new ArrayList<>();
        return had;
    }

    int letter(int i) {
        return i >= 0 && i < word.size() ? word.get(i) : NONE;
    }

    /** The lengths of the runs of a word. */
    private static List<Integer> runsOf(List<Integer> letters) {
        List<Integer> lengths = new ArrayList<>();
        for (int i = 0; i < letters.size(); i++) {
            boolean goesOn = i > 0 && letters.get(i).intValue() == letters.get(i - 1).intValue();
            if (goesOn) lengths.set(lengths.size() - 1, lengths.get(lengths.size() - 1) + 1);
            else lengths.add(1);
        }
        return lengths;
    }

    private static List<Integer> shortened(List<Integer> letters, int g) {
        List<Integer> lengths = runsOf(letters);
        if (!lengths.isEmpty() && lengths.get(lengths.size() - 1) < g) lengths.remove(lengths.size() - 1);
        boolean firstIsThere = runsOf(letters).size() > 1 && !lengths.isEmpty();
        if (firstIsThere && lengths.get(0) < g) lengths.remove(0);
        return lengths;
    }

    private static boolean mayStand(List<Integer> letters, int g) {
        if (letters.isEmpty()) return true;
        return Collections.max(letters) <= g && Collections.max(runsOf(letters)) <= g && mayStand(shortened(letters, g), g);
    }

    int runs() {
        return runsOf(word).size();
    }

    int shorten(int g) {
        if (not(g, 1, 6)) return OUTSIDE;
        for (int length : runsOf(word)) if (length > 6) return STATE;
        word = shortened(word, g);
        return word.size();
    }

    int lengthen(int a, int i) {
        if (a < 0 || a > 3) return UNKNOWN;
        int[] letters = alphabets[a];
        if (i < 0 || i >= letters.length) return OUTSIDE;
        List<Integer> longer = new ArrayList<>();
        for (int j = 0; j < word.size(); j++) {
            for (int k = 0; k < word.get(j); k++) longer.add(letters[(i + j) % letters.length]);
        }
        if (longer.size() > 60) return FULL;
        word = longer;
        return word.size();
    }

    int mirror() {
        Collections.reverse(word);
        return word.size();
    }

    int turn(int a) {
        if (a < 0 || a > 3) return UNKNOWN;
        int[] letters = alphabets[a];
        int others = 0;
        for (int j = 0; j < word.size(); j++) {
            int first = -1;
            for (int i = letters.length - 1; i >= 0; i--) if (letters[i] == word.get(j)) first = i;
            if (first < 0) continue;
            word.set(j, letters[(first + 1) % letters.length]);
            others++;
        }
        return others;
    }

    int depth(int g) {
        if (not(g, 2, 6)) return OUTSIDE;
        if (!mayStand(word, g)) return NONE;
        int depth = 0;
        for (List<Integer> left = word; !left.isEmpty(); left = shortened(left, g)) depth++;
        return depth;
    }

    int many(int n, int g) {
        if (!(g == 2 && n >= 0 && n <= 14) && !(g == 3 && n >= 0 && n <= 9)) return OUTSIDE;
        if (manyDone == 10) return STATE;
        manyDone++;
        int all = 1;
        for (int i = 0; i < n; i++) all *= g;
        int found = 0;
        for (int number = 0; number < all; number++) {
            List<Integer> letters = new ArrayList<>();
            for (int i = 0, rest = number; i < n; i++, rest /= g) letters.add(1 + rest % g);
            if (mayStand(letters, g)) found++;
        }
        return found;
    }

    int isMirror() {
        List<Integer> other = new ArrayList<>(word);
        Collections.reverse(other);
        return other.equals(word) ? 1 : 0;
    }

    int twice() {
        for (int length = 1; 2 * length <= word.size(); length++) {
            for (int i = 0; i + 2 * length <= word.size(); i++) {
                if (word.subList(i, i + length).equals(word.subList(i + length, i + 2 * length))) return length;
            }
        }
        return 0;
    }

    // ---- the word in rows

    int find(int row, int k, int n) {
        if (noRow(row)) return UNKNOWN;
        if (not(k, 0, LAST) || not(n, 0, LAST)) return OUTSIDE;
        makeRows();
        for (int place = k; place + word.size() <= n; place++) {
            int alike = 0;
            while (alike < word.size() && rows[row][place + alike] == word.get(alike)) alike++;
            if (alike == word.size()) return place;
        }
        return NONE;
    }

    int unlike(int row, int m, int n) {
        if (noRow(row)) return UNKNOWN;
        if (not(m, 1, 20) || not(n, 0, 2000)) return OUTSIDE;
        if (unlikeDone == 40) return STATE;
        unlikeDone++;
        makeRows();
        Set<String> found = new HashSet<>();
        for (int i = 0; i + m <= n; i++) found.add(Arrays.toString(Arrays.copyOfRange(rows[row], i, i + m)));
        return found.size();
    }

    // ---- what is told

    int told(int what) {
        if (what == 0) return ring.length;
        if (what == 1) return word.size();
        if (what == 2) return manyDone;
        if (what == 3) return unlikeDone;
        return what >= 4 && what <= 7 ? alphabets[what - 4].length : OUTSIDE;
    }

    long digest() {
        long h = 163;
        for (int[] letters : alphabets) for (int v : letters) h = 31 * h + v;
        for (int a : ring) h = 31 * h + a;
        for (int v : word) h = 31 * h + v;
        return 31 * (31 * h + manyDone) + unlikeDone;
    }
}
