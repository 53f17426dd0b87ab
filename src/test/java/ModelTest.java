import java.util.Random;

/** Long runs of mixed calls, of which each answer and all counts are held against the model's. */
public final class ModelTest {
    private static final int RUNS = 1500;
    private static final int CALLS = 512;
    private static final String[] PARTS = {"a", "b", "c", "ab", "/", "/", "/", "//", ".", "..", "../", "./", "a/", "/b", "a/b",
        "...", " ", "\t", "\n", "~", "nnnnnnnn", "/a/c/b", "b/../a", ""};
    private static final int[] ODD = {Integer.MIN_VALUE, -1, 0, 1, 8, 9, 16, 250, Integer.MAX_VALUE};

    private final Random random;
    private final PathTree tree = new PathTree();
    private final Model model = new Model();
    private final String title;

    private ModelTest(int seed) {
        random = new Random(seed);
        title = "seed " + seed;
    }

    public static void main(String[] args) {
        for (int seed = 0; seed < RUNS; seed++) {
            ModelTest test = new ModelTest(seed);
            for (int call = 0; call < CALLS; call++) {
                test.callBoth(call);
            }
        }
        Run.finish();
    }

    private void callBoth(int call) {
        int kind = random.nextInt(24);
        switch (kind) {
            case 0 -> due(call, "find", tree.find(), model.find());
            case 1, 2 -> due(call, "make", tree.make(), model.make());
            case 3 -> due(call, "go", tree.go(), model.go());
            case 4, 5 -> due(call, "open", tree.open(), model.open());
            case 6 -> due(call, "remove", tree.remove(), model.remove());
            case 7, 8 -> due(call, "move", tree.move(), model.move());
            case 9 -> due(call, "empty", tree.empty(), model.empty());
            case 10, 11, 12 -> writeBoth(call);
            case 13 -> pathBoth(call, random.nextLong(), number(8));
            default -> {
                String part = PARTS[random.nextInt(PARTS.length)];
                pathBoth(call, Run.packed(part), part.length());
            }
        }
        compareStates(call);
    }

    private void writeBoth(int call) {
        long bytes = random.nextLong();
        int n = number(8);
        due(call, "write(" + bytes + ", " + n + ")", tree.write(bytes, n), model.write(bytes, n));
    }

    private void pathBoth(int call, long chars, int n) {
        due(call, "path(" + chars + ", " + n + ")", tree.path(chars, n), model.path(chars, n));
    }

    private void compareStates(int call) {
        for (int what = -1; what < 8; what++) {
            due(call, "count(" + what + ")", tree.count(what), model.count(what));
        }
        int k = number(6);
        int i = number(4);
        due(call, "name(" + k + ", " + i + ")", tree.name(k, i), model.name(k, i));
        int at = number(Math.max(0, model.count(6)));
        due(call, "byteAt(" + at + ")", tree.byteAt(at), model.byteAt(at));
    }

    /** Mostly 0 .. most, now and then something odd. */
    private int number(int most) {
        return random.nextInt(12) == 0 ? ODD[random.nextInt(ODD.length)] : random.nextInt(most + 1);
    }

    private void due(int call, String what, int got, int want) {
        Run.due(title + ", call " + call + ": " + what, got, want);
    }

    private void due(int call, String what, boolean got, boolean want) {
        Run.due(title + ", call " + call + ": " + what, got, want);
    }
}
