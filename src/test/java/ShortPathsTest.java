/**
 * Every short path of slashes, dots and two names, by each call that uses a path and from two
 * directories at hand: the answer, and what then stands, are held against the model's.
 */
public final class ShortPathsTest {
    private static final String CHARACTERS = "/.df";
    private static final int LONGEST = 6;
    private static final String[] CALLS = {"find", "make", "go", "open", "remove", "move"};
    private static final String[] AT_HAND = {"/", "/d"};
    private static final String[] DIRECTORIES = {"/", "/d", "/d/d"};

    private final PathTree tree = new PathTree();
    private final Model model = new Model();
    private final String title;

    /** The directories d, d/d and d/d/f, the file d/f with a and the open file f with xy. */
    private ShortPathsTest(String title) {
        this.title = title;
        use("make", "d");
        use("make", "d/d");
        use("make", "d/d/f");
        use("open", "d/f");
        write("a");
        use("open", "f");
        write("xy");
    }

    public static void main(String[] args) {
        eachPath("");
        Run.finish();
    }

    private static void eachPath(String path) {
        for (String call : CALLS) {
            for (String atHand : AT_HAND) {
                ShortPathsTest test = new ShortPathsTest(call + "() by \"" + path + "\" from " + atHand);
                test.use("go", atHand);
                test.use(call, path);
                test.lookAround();
            }
        }
        for (int i = 0; i < CHARACTERS.length() && path.length() < LONGEST; i++) {
            eachPath(path + CHARACTERS.charAt(i));
        }
    }

    private void use(String call, String path) {
        long chars = Run.packed(path);
        due("path", tree.path(chars, path.length()), model.path(chars, path.length()));
        switch (call) {
            case "find" -> due(call, tree.find(), model.find());
            case "make" -> due(call, tree.make(), model.make());
            case "go" -> due(call, tree.go(), model.go());
            case "open" -> due(call, tree.open(), model.open());
            case "remove" -> due(call, tree.remove(), model.remove());
            case "move" -> due(call, tree.move(), model.move());
            default -> throw new IllegalArgumentException(call);
        }
    }

    private void write(String bytes) {
        long packed = Run.packed(bytes);
        due("write", tree.write(packed, bytes.length()), model.write(packed, bytes.length()));
    }

    private void lookAround() {
        for (int i = 0; i < 3; i++) {
            due("then byteAt(" + i + ")", tree.byteAt(i), model.byteAt(i));
        }
        lookAtDirectory("");
        for (String directory : DIRECTORIES) {
            use("go", directory);
            lookAtDirectory(" in " + directory);
        }
    }

    private void lookAtDirectory(String where) {
        for (int what = 0; what <= 6; what++) {
            due("then count(" + what + ")" + where, tree.count(what), model.count(what));
        }
        for (int k = 0; k < 4; k++) {
            for (int i = 0; i < 2; i++) {
                due("then name(" + k + ", " + i + ")" + where, tree.name(k, i), model.name(k, i));
            }
        }
    }

    private void due(String what, int got, int want) {
        if (got != want) {
            Run.due(title + ": " + what, got, want);
        }
    }

    private void due(String what, boolean got, boolean want) {
        due(what, got ? 1 : 0, want ? 1 : 0);
    }
}
