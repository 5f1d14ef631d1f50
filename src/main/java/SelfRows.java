/** Rows that tell the lengths of their own runs, and a word that is taken from them, shortened and sought in them. */
public final class SelfRows {
    public static final int NONE = -1, UNKNOWN = -101, OUTSIDE = -102, STATE = -103, FULL = -104;

    private static final int ALPHABETS = 4;
    private static final int ROWS_MOST = 3;
    private static final int GREATEST_LETTER = 6;
    private static final int LAST_PLACE = 100000;
    private static final int WORD_MOST = 60;
    private static final int STRETCH_MOST = 20;
    private static final int UNLIKE_WITHIN = 2000;
    private static final int MANY_TIMES = 10;
    private static final int UNLIKE_TIMES = 40;

    private final Ring circle = new Ring();
    private final Word word = new Word();
    /** Where a word is shortened or made anew, while THE WORD must stay as it is. */
    private final Word spare = new Word();
    /** The word that many() builds up. */
    private final Word trial = new Word();
    private final Stretches stretches = new Stretches();
    private int manyDone = 0;
    private int unlikeDone = 0;

    public SelfRows() {
    }

    // ---- alphabets, the ring

    public int alphabet(int a, int n, int w, int x, int y, int z) {
        Alphabet named = circle.alphabetNamed(a);
        if (named == null) return UNKNOWN;
        if (!named.change(n, w, x, y, z)) return OUTSIDE;
        circle.forgetNumbers();
        return n;
    }

    public int ring(int n, int a, int b, int c) {
        if (n < 1 || n > ROWS_MOST) return OUTSIDE;
        boolean known = circle.hasAlphabet(a)
            && (n < 2 || circle.hasAlphabet(b))
            && (n < 3 || circle.hasAlphabet(c));
        if (!known) return UNKNOWN;
        circle.join(n, a, b, c);
        return n;
    }

    // ---- rows

    public int at(int row, int k) {
        if (!circle.hasRow(row)) return UNKNOWN;
        if (isOutside(k, LAST_PLACE)) return OUTSIDE;
        return circle.rowOf(row, k + 1).number(k);
    }

    public int count(int row, int v, int n) {
        if (!circle.hasRow(row)) return UNKNOWN;
        if (isOutside(n, LAST_PLACE)) return OUTSIDE;
        return circle.rowOf(row, n).lettersWithin(v, n);
    }

    public int sum(int row, int n) {
        if (!circle.hasRow(row)) return UNKNOWN;
        if (isOutside(n, LAST_PLACE)) return OUTSIDE;
        return circle.rowOf(row, n).sumWithin(n);
    }

    public int run(int row, int k) {
        if (!circle.hasRow(row)) return UNKNOWN;
        if (isOutside(k, LAST_PLACE)) return OUTSIDE;
        return circle.rowOf(row, k + 1).runsWithin(k + 1) - 1;
    }

    public int begins(int row, int j) {
        if (!circle.hasRow(row)) return UNKNOWN;
        if (isOutside(j, LAST_PLACE)) return OUTSIDE;
        int place = circle.rowOf(circle.nextOf(row), j).sumWithin(j);
        return place > LAST_PLACE ? NONE : place;
    }

    public int off(int row, int v, int share, int n) {
        if (!circle.hasRow(row)) return UNKNOWN;
        if (isOutside(n, LAST_PLACE) || share < 2 || share > 6) return OUTSIDE;
        return circle.rowOf(row, n).greatestOff(v, share, n);
    }

    // ---- the word

    public int add(int v) {
        if (!isLetter(v)) return OUTSIDE;
        if (!word.put(v)) return FULL;
        return word.size();
    }

    public int take(int row, int k, int n) {
        if (!circle.hasRow(row)) return UNKNOWN;
        if (isOutside(k, LAST_PLACE) || isOutside(n, WORD_MOST)) return OUTSIDE;
        if (k + n - 1 > LAST_PLACE) return OUTSIDE;
        Row from = circle.rowOf(row, k + n);
        word.empty();
        for (int i = 0; i < n; i++) word.put(from.number(k + i));
        return n;
    }

    public int clear() {
        int had = word.size();
        word.empty();
        return had;
    }

    public int letter(int i) {
        return word.letterAt(i);
    }

    public int runs() {
        return word.runsInIt();
    }

    public int shorten(int g) {
        if (!isLetter(g)) return OUTSIDE;
        if (word.longestRun() > GREATEST_LETTER) return STATE;
        word.becomeShorter(g);
        return word.size();
    }

    public int lengthen(int a, int i) {
        Alphabet named = circle.alphabetNamed(a);
        if (named == null) return UNKNOWN;
        if (i < 0 || i >= named.size()) return OUTSIDE;
        if (word.total() > WORD_MOST) return FULL;
        spare.become(word);
        word.empty();
        for (int j = 0; j < spare.size(); j++) {
            word.putTimes(named.letterOfRun(i + j), spare.letterAt(j));
        }
        return word.size();
    }

    public int mirror() {
        word.turnRound();
        return word.size();
    }

    public int turn(int a) {
        Alphabet named = circle.alphabetNamed(a);
        if (named == null) return UNKNOWN;
        return word.replaceBy(named);
    }

    public int depth(int g) {
        if (g < 2 || g > GREATEST_LETTER) return OUTSIDE;
        spare.become(word);
        return depthSpent(spare, g);
    }

    public int many(int n, int g) {
        if (isOutside(n, manyMost(g))) return OUTSIDE;
        if (manyDone >= MANY_TIMES) return STATE;
        manyDone++;
        trial.empty();
        return standing(trial, spare, n, 0, 1, g);
    }

    public int isMirror() {
        return word.isSameMirrored() ? 1 : 0;
    }

    public int twice() {
        return word.leastTwice();
    }

    // ---- the word in rows

    public int find(int row, int k, int n) {
        if (!circle.hasRow(row)) return UNKNOWN;
        if (isOutside(k, LAST_PLACE) || isOutside(n, LAST_PLACE)) return OUTSIDE;
        Row in = circle.rowOf(row, n);
        for (int place = k; place + word.size() <= n; place++) {
            if (in.holds(word, place)) return place;
        }
        return NONE;
    }

    public int unlike(int row, int m, int n) {
        if (!circle.hasRow(row)) return UNKNOWN;
        if (m < 1 || m > STRETCH_MOST || isOutside(n, UNLIKE_WITHIN)) return OUTSIDE;
        if (unlikeDone >= UNLIKE_TIMES) return STATE;
        unlikeDone++;
        return stretches.unlikeWithin(circle.rowOf(row, n), m, n);
    }

    // ---- what is told

    public int told(int what) {
        if (what == 0) return circle.size();
        if (what == 1) return word.size();
        if (what == 2) return manyDone;
        if (what == 3) return unlikeDone;
        Alphabet named = circle.alphabetNamed(what - 4L);
        return named == null ? OUTSIDE : named.size();
    }

    public long digest() {
        long h = circle.mixInto(163);
        h = word.mixInto(h);
        h = 31 * h + manyDone;
        return 31 * h + unlikeDone;
    }

    // ---- what several calls need

    private static boolean isOutside(int number, int most) {
        return number < 0 || number > most;
    }

    private static boolean isLetter(int v) {
        return v >= 1 && v <= GREATEST_LETTER;
    }

    /** How long the rows of many() may be; NONE: it is not asked for this g. */
    private static int manyMost(int g) {
        if (g == 2) return 14;
        if (g == 3) return 9;
        return NONE;
    }

    /** The depth of a word, which is used up. */
    private static int depthSpent(Word spent, int g) {
        for (int depth = 0; depth <= WORD_MOST; depth++) {
            if (spent.size() == 0) return depth;
            if (spent.greatestLetter() > g || spent.longestRun() > g) return NONE;
            spent.becomeShorter(g);
        }
        return NONE;
    }

    /**
     * How many rows may stand whose runs begin like the trial's, with as many letters more as are left.
     * Words of like runs stand or fall together: so only one of them is tried, and counted as often as there are such.
     * lastRun is the length of the trial's last run; alike is how many rows have the trial's runs.
     */
    private static int standing(Word trial, Word spare, int left, int lastRun, int alike, int g) {
        if (left <= 0) {
            spare.become(trial);
            return depthSpent(spare, g) == NONE ? 0 : alike;
        }
        int found = 0;
        int last = trial.letterAt(trial.size() - 1);
        if (last != NONE && lastRun < g && trial.put(last)) {
            found += standing(trial, spare, left - 1, lastRun + 1, alike, g);
            trial.drop();
        }
        int choices = last == NONE ? g : g - 1;
        if (trial.put(last == 1 ? 2 : 1)) {
            found += standing(trial, spare, left - 1, 1, alike * choices, g);
            trial.drop();
        }
        return found;
    }

    /** 2 to 4 letters in a circle, no two neighbours alike. */
    private static final class Alphabet {
        private static final int LETTERS_MOST = 4;

        private final int[] letters = new int[LETTERS_MOST];
        private int size = 2;

        Alphabet() {
            letters[0] = 1;
            letters[1] = 2;
        }

        int size() {
            return size;
        }

        /** The letter of a run, counted round from the first letter. */
        int letterOfRun(int run) {
            if (size < 1 || run < 0) return NONE;
            int i = run % size;
            return i < letters.length ? letters[i] : NONE;
        }

        /** The letter behind the first one like v; NONE: v is not in it. */
        int letterBehind(int v) {
            for (int i = 0; i < size; i++) {
                if (letterOfRun(i) == v) return letterOfRun(i + 1);
            }
            return NONE;
        }

        /** False, and nothing is changed: no alphabet can be like this. */
        boolean change(int n, int w, int x, int y, int z) {
            if (n < 2 || n > LETTERS_MOST) return false;
            int last = n == 2 ? x : n == 3 ? y : z;
            if (!isLetter(w) || !isLetter(x) || w == x || last == w) return false;
            if (n >= 3 && (!isLetter(y) || x == y)) return false;
            if (n >= 4 && (!isLetter(z) || y == z)) return false;
            letters[0] = w;
            letters[1] = x;
            letters[2] = y;
            letters[3] = z;
            size = n;
            return true;
        }

        long mixInto(long before) {
            long h = before;
            for (int i = 0; i < size; i++) h = 31 * h + letterOfRun(i);
            return h;
        }
    }

    /** The alphabets, and the rows, each made as far as asked for. */
    private static final class Ring {
        /** Each step makes a run at least, and all rows together have no more numbers than this. */
        private static final int STEPS_MOST = ROWS_MOST * (LAST_PLACE + 1);

        private final Alphabet[] alphabets = new Alphabet[ALPHABETS];
        private final Row[] rows = new Row[ROWS_MOST];
        private final int[] alphabetOfRow = new int[ROWS_MOST];
        private int size = 1;

        Ring() {
            for (int i = 0; i < alphabets.length; i++) alphabets[i] = new Alphabet();
            for (int i = 0; i < rows.length; i++) rows[i] = new Row();
        }

        int size() {
            return size;
        }

        boolean hasAlphabet(int a) {
            return a >= 0 && a < alphabets.length;
        }

        boolean hasRow(int row) {
            return row >= 0 && row < size && row < rows.length;
        }

        /** Null: there is none. (A long, for told() asks behind a subtraction.) */
        Alphabet alphabetNamed(long a) {
            return a >= 0 && a < alphabets.length ? alphabets[(int) a] : null;
        }

        void join(int n, int a, int b, int c) {
            size = n;
            alphabetOfRow[0] = a;
            alphabetOfRow[1] = b;
            alphabetOfRow[2] = c;
            forgetNumbers();
        }

        void forgetNumbers() {
            for (int i = 0; i < rows.length; i++) rows[i].forget();
        }

        int nextOf(int row) {
            return row + 1 < size ? row + 1 : 0;
        }

        /** A row of the ring, with as many numbers made as told, at least. */
        Row rowOf(int row, int numbers) {
            Row asked = rows[hasRow(row) ? row : 0];
            for (int step = 0; step < STEPS_MOST && asked.made() < numbers; step++) grow(ripeFrom(row), numbers);
            return asked;
        }

        /** The first row, from this one on, that needs no other to grow; one there is, for each waits for a shorter one. */
        private int ripeFrom(int row) {
            int ripe = row;
            for (int i = 1; i < size && waits(ripe); i++) ripe = nextOf(ripe);
            return ripe;
        }

        private boolean waits(int row) {
            int next = nextOf(row);
            return hasRow(row) && hasRow(next) && rows[row].runsMade() > rows[next].made();
        }

        /** Makes a run, and then all that the next row tells already, as far as they are needed. */
        private void grow(int row, int enough) {
            int next = nextOf(row);
            if (!hasRow(row) || !hasRow(next)) return;
            Row growing = rows[row];
            int run = growing.runsMade();
            growing.putRun(lettersOf(row).letterOfRun(run), lengthTold(next, run));
            growing.putRunsToldBy(rows[next], lettersOf(row), enough);
        }

        /** Number j of a row; where it is the first that is not made yet, the letter of the run that begins there. */
        private int lengthTold(int row, int j) {
            Row teller = rows[hasRow(row) ? row : 0];
            return j < teller.made() ? teller.number(j) : lettersOf(row).letterOfRun(teller.runsMade());
        }

        private Alphabet lettersOf(int row) {
            int a = hasRow(row) ? alphabetOfRow[row] : 0;
            return alphabets[hasAlphabet(a) ? a : 0];
        }

        long mixInto(long before) {
            long h = before;
            for (int a = 0; a < alphabets.length; a++) h = alphabets[a].mixInto(h);
            for (int row = 0; row < size && row < alphabetOfRow.length; row++) h = 31 * h + alphabetOfRow[row];
            return h;
        }
    }

    /** Numbers 0 to 100000 of a row, made from the first one on. */
    private static final class Row {
        /** Counts are kept where each block of numbers begins, so that none is counted from far. */
        private static final int BLOCK = 256;
        private static final int COLUMNS = GREATEST_LETTER + 1;
        private static final int RUNS = 0;

        private final byte[] numbers = new byte[LAST_PLACE + 1];
        /** For each block the counts before it: of begun runs (column 0), of each letter (its own column). */
        private final int[] kept = new int[((LAST_PLACE + 1) / BLOCK + 1) * COLUMNS];
        private final int[] counts = new int[COLUMNS];
        private int made = 0;

        int made() {
            return made;
        }

        int runsMade() {
            return counts[RUNS];
        }

        /** NONE: it is not made. */
        int number(int k) {
            return k >= 0 && k < made && k < numbers.length ? numbers[k] : NONE;
        }

        void forget() {
            made = 0;
            for (int i = 0; i < counts.length; i++) counts[i] = 0;
        }

        /** What of the run lies behind the last place is left out. */
        void putRun(int v, int length) {
            if (!isLetter(v) || v >= counts.length || made >= numbers.length) return;
            counts[RUNS]++;
            for (int i = 0; i < length && made < numbers.length; i++) {
                numbers[made] = (byte) v;
                counts[v]++;
                made++;
                if (made % BLOCK == 0) keepCounts();
            }
        }

        /** As many runs as the teller has numbers, or fewer, if there are numbers enough before. */
        void putRunsToldBy(Row teller, Alphabet letters, int enough) {
            int told = teller.made();
            for (int run = runsMade(); run < told && made < enough && made < numbers.length; run++) {
                putRun(letters.letterOfRun(run), teller.number(run));
            }
        }

        private void keepCounts() {
            int first = made / BLOCK * COLUMNS;
            if (first < 0 || first + COLUMNS > kept.length) return;
            for (int i = 0; i < counts.length; i++) kept[first + i] = counts[i];
        }

        private int keptBefore(int n, int column) {
            int i = n / BLOCK * COLUMNS + column;
            return i >= 0 && i < kept.length ? kept[i] : 0;
        }

        int lettersWithin(int v, int n) {
            if (!isLetter(v) || n < 0) return 0;
            int found = keptBefore(n, v);
            for (int k = n - n % BLOCK; k < n; k++) {
                if (number(k) == v) found++;
            }
            return found;
        }

        int sumWithin(int n) {
            int sum = 0;
            for (int v = 1; v <= GREATEST_LETTER; v++) sum += v * lettersWithin(v, n);
            return sum;
        }

        /** How many runs begin within the first n numbers. */
        int runsWithin(int n) {
            if (n < 0) return 0;
            int begun = keptBefore(n, RUNS);
            for (int k = n - n % BLOCK; k < n; k++) {
                if (number(k) != number(k - 1)) begun++;
            }
            return begun;
        }

        int greatestOff(int v, int share, int n) {
            int found = 0;
            int greatest = 0;
            for (int k = 1; k <= n; k++) {
                if (number(k - 1) == v) found++;
                greatest = Math.max(greatest, Math.abs(found * share - k));
            }
            return greatest;
        }

        boolean holds(Word word, int place) {
            for (int i = 0; i < word.size(); i++) {
                if (number(place + i) != word.letterAt(i)) return false;
            }
            return true;
        }
    }

    /** Up to 60 letters. */
    private static final class Word {
        private final int[] letters = new int[WORD_MOST];
        private int size = 0;

        int size() {
            return size;
        }

        int letterAt(int i) {
            return i >= 0 && i < size && i < letters.length ? letters[i] : NONE;
        }

        void empty() {
            size = 0;
        }

        /** False: it is full. */
        boolean put(int v) {
            if (size < 0 || size >= letters.length) return false;
            letters[size] = v;
            size++;
            return true;
        }

        void putTimes(int v, int times) {
            for (int i = 0; i < times; i++) put(v);
        }

        void drop() {
            if (size > 0) size--;
        }

        void become(Word other) {
            empty();
            for (int i = 0; i < other.size(); i++) put(other.letterAt(i));
        }

        int total() {
            int total = 0;
            for (int i = 0; i < size; i++) total += letterAt(i);
            return total;
        }

        int greatestLetter() {
            int greatest = 0;
            for (int i = 0; i < size; i++) greatest = Math.max(greatest, letterAt(i));
            return greatest;
        }

        int runsInIt() {
            int found = 0;
            for (int i = 0; i < size; i++) {
                if (isEndOfRun(i)) found++;
            }
            return found;
        }

        int longestRun() {
            int longest = 0;
            int length = 0;
            for (int i = 0; i < size; i++) {
                length++;
                longest = Math.max(longest, length);
                if (isEndOfRun(i)) length = 0;
            }
            return longest;
        }

        private boolean isEndOfRun(int i) {
            return letterAt(i) != letterAt(i + 1);
        }

        /** It becomes its runs' lengths, in place: a run's length never comes behind the run itself. */
        void becomeShorter(int g) {
            int before = size;
            int lengths = 0;
            int length = 0;
            for (int i = 0; i < before; i++) {
                length++;
                if (!isEndOfRun(i)) continue;
                boolean atAnEdge = length == i + 1 || i + 1 == before;
                if (length >= g || !atAnEdge) {
                    change(lengths, length);
                    lengths++;
                }
                length = 0;
            }
            size = lengths;
        }

        private void change(int i, int v) {
            if (i >= 0 && i < letters.length) letters[i] = v;
        }

        void turnRound() {
            for (int i = 0, j = size - 1; i < j; i++, j--) {
                int first = letterAt(i);
                change(i, letterAt(j));
                change(j, first);
            }
        }

        /** Each letter of the alphabet becomes the one behind it: how many became others. */
        int replaceBy(Alphabet alphabet) {
            int others = 0;
            for (int i = 0; i < size; i++) {
                int behind = alphabet.letterBehind(letterAt(i));
                if (behind == NONE || behind == letterAt(i)) continue;
                change(i, behind);
                others++;
            }
            return others;
        }

        boolean isSameMirrored() {
            for (int i = 0, j = size - 1; i < j; i++, j--) {
                if (letterAt(i) != letterAt(j)) return false;
            }
            return true;
        }

        int leastTwice() {
            for (int length = 1; length <= size / 2; length++) {
                if (hasTwice(length)) return length;
            }
            return 0;
        }

        /** A stretch stands twice, where as many letters in a row are like those that stand its length behind them. */
        private boolean hasTwice(int length) {
            int alike = 0;
            for (int i = 0; i + length < size; i++) {
                alike = letterAt(i) == letterAt(i + length) ? alike + 1 : 0;
                if (alike == length) return true;
            }
            return false;
        }

        long mixInto(long before) {
            long h = before;
            for (int i = 0; i < size; i++) h = 31 * h + letterAt(i);
            return h;
        }
    }

    /** Unlike stretches of a row, each kept once as a number, in a table that has room for twice as many. */
    private static final class Stretches {
        private static final int SEATS = 4096;
        private static final int BITS = 3;
        private static final long SPREAD = 0x9E3779B97F4A7C15L;

        private final long[] seats = new long[SEATS];

        int unlikeWithin(Row row, int m, int n) {
            for (int i = 0; i < seats.length; i++) seats[i] = 0;
            int unlike = 0;
            long stretch = 0;
            long all = (1L << (BITS * m)) - 1;
            for (int k = 0; k < n; k++) {
                stretch = (stretch << BITS | row.number(k)) & all;
                if (k + 1 >= m && takesSeat(stretch)) unlike++;
            }
            return unlike;
        }

        /** False: such a stretch has a seat. (No stretch is the number 0, for no letter is.) */
        private boolean takesSeat(long stretch) {
            int seat = (int) ((stretch * SPREAD) >>> 52);
            for (int tried = 0; tried < SEATS; tried++) {
                if (seat < 0 || seat >= seats.length) return false;
                if (seats[seat] == stretch) return false;
                if (seats[seat] == 0) {
                    seats[seat] = stretch;
                    return true;
                }
                seat = seat + 1 < SEATS ? seat + 1 : 0;
            }
            return false;
        }
    }
}
