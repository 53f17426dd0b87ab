/**
 * A fresh PathTree whose answers are held against those that are due; paths are given as texts. It
 * bears the document's sentence that it tests, and is itself wrong if it takes more calls than those
 * of which the document speaks.
 */
final class Run {
    private static final int NONE = PathTree.NONE;
    private static final int MOST_CALLS = 512;
    private static int wrong = 0;

    private final PathTree tree = new PathTree();
    private final String sentence;
    private final int mostCalls;
    private int calls = 0;
    /** The path that must stand in the tree now. */
    private String path = "";

    Run(String sentence) {
        this(sentence, MOST_CALLS);
    }

    private Run(String sentence, int mostCalls) {
        this.sentence = sentence;
        this.mostCalls = mostCalls;
    }

    /** For bounds that no 512 calls reach. */
    static Run ofManyCalls(String sentence) {
        return new Run(sentence, Integer.MAX_VALUE);
    }

    /** The directories d and d/e, the file d/f with abc and the open file g with xy; the root is at hand. */
    static Run ofSample(String sentence) {
        Run run = new Run(sentence);
        run.make("d", true);
        run.make("d/e", true);
        run.open("d/f", true);
        run.write("abc", 3);
        run.open("g", true);
        run.write("xy", 2);
        return run;
    }

    /** Nothing of the sample has changed. */
    void sampleStands() {
        totals(2, 3, 5);
        count(4, 0);
        lists("d", "g");
        holds("xy");
        find("d/e", 2);
        find("d/f", 1);
    }

    /** Runs each test, also behind one in which a call threw, and ends. */
    static void all(Runnable... tests) {
        for (Runnable test : tests) {
            try {
                test.run();
            } catch (RuntimeException | StackOverflowError thrown) {
                wrong++;
                thrown.printStackTrace(System.out);
            }
        }
        finish();
    }

    /** To be called last: ends the test with exit code 1 if an answer was not as due. */
    static void finish() {
        System.out.println(wrong == 0 ? "all answers are as due" : wrong + " answers are not as due");
        if (wrong != 0) {
            System.exit(1);
        }
    }

    static void due(String what, long got, long want) {
        if (got != want) {
            wrong++;
            System.out.println(what + " answered " + got + ", due is " + want);
        }
    }

    static void due(String what, boolean got, boolean want) {
        due(what, got ? 1 : 0, want ? 1 : 0);
    }

    /** Up to eight characters as the argument of path or write. */
    static long packed(String characters) {
        long bits = 0;
        for (int i = 0; i < characters.length(); i++) {
            bits = bits << 8 | characters.charAt(i);
        }
        return bits;
    }

    int calls() {
        return calls;
    }

    /** A call by which the path must stay as it is. */
    void pathRefused(long chars, int n) {
        called("path(" + chars + ", " + n + ")", tree.path(chars, n), NONE);
    }

    /** A call by which the text must come behind the path. */
    void path(long chars, int n, String text) {
        path += text;
        called("path(" + chars + ", " + n + ")", tree.path(chars, n), path.length());
    }

    void type(String text) {
        for (int i = 0; i < text.length(); i += 8) {
            String part = text.substring(i, Math.min(text.length(), i + 8));
            path(packed(part), part.length(), part);
        }
    }

    void find(String text, int want) {
        type(text);
        used("find", tree.find(), want);
    }

    void make(String text, boolean want) {
        type(text);
        used("make", tree.make(), want);
    }

    void go(String text, boolean want) {
        type(text);
        used("go", tree.go(), want);
    }

    void open(String text, boolean want) {
        type(text);
        used("open", tree.open(), want);
    }

    void remove(String text, boolean want) {
        type(text);
        used("remove", tree.remove(), want);
    }

    void move(String text, boolean want) {
        type(text);
        used("move", tree.move(), want);
    }

    void empty(int want) {
        called("empty()", tree.empty(), want);
    }

    void write(long bytes, int n, int want) {
        called("write(" + bytes + ", " + n + ")", tree.write(bytes, n), want);
    }

    void write(String bytes, int want) {
        write(packed(bytes), bytes.length(), want);
    }

    void byteAt(int i, int want) {
        called("byteAt(" + i + ")", tree.byteAt(i), want);
    }

    void name(int k, int i, int want) {
        called("name(" + k + ", " + i + ")", tree.name(k, i), want);
    }

    void count(int what, int want) {
        called("count(" + what + ")", tree.count(what), want);
    }

    void pathIsEmpty() {
        count(5, 0);
    }

    void noneIsOpen() {
        count(6, NONE);
    }

    /** The open file's bytes, which end there. */
    void holds(String bytes) {
        for (int i = 0; i < bytes.length(); i++) {
            byteAt(i, bytes.charAt(i));
        }
        byteAt(bytes.length(), NONE);
        count(6, bytes.length());
    }

    /** The names in the directory at hand, in this order, and no more. */
    void lists(String... names) {
        for (int k = 0; k < names.length; k++) {
            for (int i = 0; i < names[k].length(); i++) {
                name(k, i, names[k].charAt(i));
            }
            name(k, names[k].length(), NONE);
        }
        name(names.length, 0, NONE);
        count(3, names.length);
    }

    /** All files, directories (with the root) and bytes that there are. */
    void totals(int files, int directories, int bytes) {
        count(0, files);
        count(1, directories);
        count(2, bytes);
    }

    private void used(String call, int got, int want) {
        called(call + "() by \"" + path + "\"", got, want);
        path = "";
    }

    private void used(String call, boolean got, boolean want) {
        used(call, got ? 1 : 0, want ? 1 : 0);
    }

    private void called(String call, int got, int want) {
        calls++;
        due(sentence + ": " + call, got, want);
        if (calls == mostCalls + 1) {
            due(sentence + ": the test, which may make " + mostCalls + " calls,", calls, mostCalls);
        }
    }
}
