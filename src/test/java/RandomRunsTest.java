/** Long runs of calls, drawn by a fixed recipe, whose answers must be those of the Model. */
public final class RandomRunsTest {
    private static final int RUNS = 60;
    private static final int CALLS = 500;
    private static final Check CHECK = new Check();

    private long seed;
    private SelfRows rows = new SelfRows();
    private Model model = new Model();
    private String call = "";
    private long got;
    private long want;

    private RandomRunsTest(long seed) {
        this.seed = seed;
    }

    public static void main(String[] args) {
        for (int run = 1; run <= RUNS; run++) new RandomRunsTest(run).runOnce(run);
        CHECK.end();
    }

    private void runOnce(int run) {
        // An own mood for each run: how often an argument is one that may be refused.
        int wild = run % 3 == 0 ? 4 : 25;
        for (int i = 1; i <= CALLS; i += 2) {
            choose(wild);
            CHECK.due("run " + run + ", call " + i + ": " + call, got, want);
            CHECK.due("run " + run + ", digest behind call " + i + ": " + call, rows.digest(), model.digest());
        }
    }

    private int below(int bound) {
        seed = seed * 6364136223846793005L + 1442695040888963407L;
        return (int) Math.floorMod(seed >>> 33, (long) bound);
    }

    /** Mostly a number from least to most, now and then one at the edges or far off. */
    private int number(int least, int most, int wild) {
        if (below(wild) > 0) return least + below(most - least + 1);
        int[] odd = {least - 1, most + 1, least, most, Integer.MIN_VALUE, Integer.MAX_VALUE, -1, 0, 100000, 100001};
        return odd[below(odd.length)];
    }

    /** Mostly near, now and then far out. */
    private int place(int wild) {
        int kind = below(8);
        return kind == 0 ? number(0, 100000, wild) : kind < 3 ? number(0, 3000, wild) : number(0, 80, wild);
    }

    private void tell(String name, long answered, long due, int... arguments) {
        StringBuilder text = new StringBuilder(name).append('(');
        for (int i = 0; i < arguments.length; i++) text.append(i == 0 ? "" : ", ").append(arguments[i]);
        call = text.append(')').toString();
        got = answered;
        want = due;
    }

    private void choose(int wild) {
        int kind = below(40);
        if (kind < 4) chooseRing(kind, wild);
        else if (kind < 14) chooseRow(kind - 4, wild);
        else if (kind < 22) fillWord(kind - 14, wild);
        else if (kind < 32) changeWord(kind - 22, wild);
        else askWord(kind - 32, wild);
    }

    private void chooseRing(int kind, int wild) {
        if (kind < 2) {
            int a = number(0, 3, wild), n = number(2, 4, wild);
            int w = number(1, 6, wild), x = number(1, 6, wild), y = number(1, 6, wild), z = number(1, 6, wild);
            tell("alphabet", rows.alphabet(a, n, w, x, y, z), model.alphabet(a, n, w, x, y, z), a, n, w, x, y, z);
        } else {
            int n = number(1, 3, wild), a = number(0, 3, wild), b = number(0, 3, wild), c = number(0, 3, wild);
            tell("ring", rows.ring(n, a, b, c), model.ring(n, a, b, c), n, a, b, c);
        }
    }

    private int row(int wild) {
        return below(wild) == 0 ? number(0, 2, 2) : below(model.ring.length);
    }

    private void chooseRow(int kind, int wild) {
        int row = row(wild), k = place(wild), v = number(1, 6, wild), share = number(2, 6, wild);
        if (kind < 2) tell("at", rows.at(row, k), model.at(row, k), row, k);
        else if (kind < 4) tell("count", rows.count(row, v, k), model.count(row, v, k), row, v, k);
        else if (kind < 5) tell("sum", rows.sum(row, k), model.sum(row, k), row, k);
        else if (kind < 7) tell("run", rows.run(row, k), model.run(row, k), row, k);
        else if (kind < 9) tell("begins", rows.begins(row, k), model.begins(row, k), row, k);
        else tell("off", rows.off(row, v, share, k), model.off(row, v, share, k), row, v, share, k);
    }

    private void fillWord(int kind, int wild) {
        int row = row(wild), k = place(wild), n = number(0, 60, wild), v = number(1, 3, wild);
        if (kind < 3) tell("take", rows.take(row, k, n), model.take(row, k, n), row, k, n);
        else if (kind < 4) tell("take", rows.take(row, k, n % 9), model.take(row, k, n % 9), row, k, n % 9);
        else if (kind < 7) tell("add", rows.add(v), model.add(v), v);
        else if (below(4) == 0) tell("clear", rows.clear(), model.clear());
        else tell("add", rows.add(v + 3), model.add(v + 3), v + 3);
    }

    private void changeWord(int kind, int wild) {
        int g = number(1, 6, wild), a = number(0, 3, wild), i = number(0, 3, wild);
        if (kind < 3) tell("shorten", rows.shorten(g), model.shorten(g), g);
        else if (kind < 6) tell("lengthen", rows.lengthen(a, i), model.lengthen(a, i), a, i);
        else if (kind < 7) tell("mirror", rows.mirror(), model.mirror());
        else if (kind < 9) tell("turn", rows.turn(a), model.turn(a), a);
        else tell("told", rows.told(g + 1), model.told(g + 1), g + 1);
    }

    private void askWord(int kind, int wild) {
        int row = row(wild), k = place(wild), n = place(wild), g = number(2, 6, wild);
        if (kind < 1) tell("letter", rows.letter(n), model.letter(n), n);
        else if (kind < 2) tell("runs", rows.runs(), model.runs());
        else if (kind < 3) tell("depth", rows.depth(g), model.depth(g), g);
        else if (kind < 4) tell("isMirror", rows.isMirror(), model.isMirror());
        else if (kind < 5) tell("twice", rows.twice(), model.twice());
        else if (kind < 6) tell("find", rows.find(row, k, k + n), model.find(row, k, k + n), row, k, k + n);
        else if (kind < 7) askUnlike(row, wild);
        else askMany(wild);
    }

    private void askUnlike(int row, int wild) {
        int m = number(1, 20, wild), n = number(0, 2000, wild);
        tell("unlike", rows.unlike(row, m, n), model.unlike(row, m, n), row, m, n);
    }

    private void askMany(int wild) {
        int n = number(0, 9, wild), g = number(2, 3, wild);
        tell("many", rows.many(n, g), model.many(n, g), n, g);
    }
}
