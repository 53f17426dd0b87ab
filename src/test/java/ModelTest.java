import java.util.Random;

/** Runs of 512 mixed calls, of which each answer is held against the model's. */
public final class ModelTest {
    private static final int RUNS = 6000;
    private static final int CALLS = 512;
    private static final int LAST_LOOK = 64;
    private static final String[] PARTS = {"a", "b", "c", "ab", "/", "/", "/", "//", ".", "..", "../", "./", "a/", "/b", "a/b",
        "...", " ", "\t", "\n", "~", "nnnnnnnn", "/a/c/b", "b/../a", ""};
    private static final int[] ODD = {Integer.MIN_VALUE, -1, 0, 1, 8, 9, 16, 250, Integer.MAX_VALUE};

    private final Random random;
    private final PathTree tree = new PathTree();
    private final Model model = new Model();
    private final String title;
    private int call = 0;

    private ModelTest(int seed) {
        random = new Random(seed);
        title = "seed " + seed;
    }

    public static void main(String[] args) {
        for (int seed = 0; seed < RUNS; seed++) {
            ModelTest test = new ModelTest(seed);
            while (test.call < CALLS - LAST_LOOK) {
                test.callBoth();
            }
            while (test.call < CALLS) {
                test.lookAtBoth();
            }
        }
        Run.finish();
    }

    private void callBoth() {
        switch (random.nextInt(32)) {
            case 0 -> due("find", tree.find(), model.find());
            case 1, 2 -> due("make", tree.make(), model.make());
            case 3 -> due("go", tree.go(), model.go());
            case 4, 5 -> due("open", tree.open(), model.open());
            case 6 -> due("remove", tree.remove(), model.remove());
            case 7, 8 -> due("move", tree.move(), model.move());
            case 9 -> due("empty", tree.empty(), model.empty());
            case 10, 11, 12 -> writeBoth();
            case 13 -> pathBoth(random.nextLong(), number(8));
            case 14, 15, 16, 17, 18, 19, 20, 21 -> lookAtBoth();
            default -> {
                String part = PARTS[random.nextInt(PARTS.length)];
                pathBoth(Run.packed(part), part.length());
            }
        }
    }

    private void writeBoth() {
        long bytes = random.nextLong();
        int n = number(8);
        due("write(" + bytes + ", " + n + ")", tree.write(bytes, n), model.write(bytes, n));
    }

    private void pathBoth(long chars, int n) {
        due("path(" + chars + ", " + n + ")", tree.path(chars, n), model.path(chars, n));
    }

    private void lookAtBoth() {
        switch (random.nextInt(4)) {
            case 0 -> {
                int k = number(6);
                int i = number(4);
                due("name(" + k + ", " + i + ")", tree.name(k, i), model.name(k, i));
            }
            case 1 -> {
                int i = number(Math.max(0, model.count(6)));
                due("byteAt(" + i + ")", tree.byteAt(i), model.byteAt(i));
            }
            default -> {
                int what = number(7);
                due("count(" + what + ")", tree.count(what), model.count(what));
            }
        }
    }

    /** Mostly 0 .. most, now and then something odd. */
    private int number(int most) {
        return random.nextInt(12) == 0 ? ODD[random.nextInt(ODD.length)] : random.nextInt(most + 1);
    }

    private void due(String what, int got, int want) {
        call++;
        Run.due(title + ", call " + call + ": " + what, got, want);
    }

    private void due(String what, boolean got, boolean want) {
        due(what, got ? 1 : 0, want ? 1 : 0);
    }
}
