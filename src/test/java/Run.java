/** A fresh PathTree whose answers are held against those that are due; paths are given as texts. */
final class Run {
    private static int wrong = 0;

    final PathTree tree = new PathTree();
    private final String title;

    Run(String title) {
        this.title = title;
    }

    /** To be called last: ends the test with exit code 1 if an answer was not as due. */
    static void finish() {
        System.out.println(wrong == 0 ? "all answers are as due" : wrong + " answers are not as due");
        if (wrong != 0) {
            System.exit(1);
        }
    }

    static void due(String what, long got, long want) {
        if (got != want) {
            wrong++;
            System.out.println(what + " answered " + got + ", due is " + want);
        }
    }

    static void due(String what, boolean got, boolean want) {
        due(what, got ? 1 : 0, want ? 1 : 0);
    }

    /** Up to eight characters as the argument of path or write. */
    static long packed(String characters) {
        long bits = 0;
        for (int i = 0; i < characters.length(); i++) {
            bits = bits << 8 | characters.charAt(i);
        }
        return bits;
    }

    Run type(String path) {
        for (int i = 0; i < path.length(); i += 8) {
            String part = path.substring(i, Math.min(path.length(), i + 8));
            int before = tree.count(5);
            due(told("path", part), tree.path(packed(part), part.length()), before + part.length());
        }
        return this;
    }

    void find(String path, int want) {
        due(told("find", path), type(path).tree.find(), want);
        pathIsEmpty("find", path);
    }

    void make(String path, boolean want) {
        due(told("make", path), type(path).tree.make(), want);
        pathIsEmpty("make", path);
    }

    void go(String path, boolean want) {
        due(told("go", path), type(path).tree.go(), want);
        pathIsEmpty("go", path);
    }

    void open(String path, boolean want) {
        due(told("open", path), type(path).tree.open(), want);
        pathIsEmpty("open", path);
    }

    void remove(String path, boolean want) {
        due(told("remove", path), type(path).tree.remove(), want);
        pathIsEmpty("remove", path);
    }

    void move(String path, boolean want) {
        due(told("move", path), type(path).tree.move(), want);
        pathIsEmpty("move", path);
    }

    void write(String bytes, int want) {
        due(told("write", bytes), tree.write(packed(bytes), bytes.length()), want);
    }

    void count(int what, int want) {
        due(told("count", "" + what), tree.count(what), want);
    }

    /** The open file's bytes, which end there. */
    void holds(String bytes) {
        for (int i = 0; i < bytes.length(); i++) {
            due(told("byteAt", "" + i), tree.byteAt(i), bytes.charAt(i));
        }
        due(told("byteAt", "" + bytes.length()), tree.byteAt(bytes.length()), PathTree.NONE);
        count(6, bytes.length());
    }

    /** The names in the directory at hand, in this order, and no more. */
    void lists(String... names) {
        for (int k = 0; k < names.length; k++) {
            for (int i = 0; i < names[k].length(); i++) {
                due(told("name", k + ", " + i), tree.name(k, i), names[k].charAt(i));
            }
            due(told("name", k + ", " + names[k].length()), tree.name(k, names[k].length()), PathTree.NONE);
        }
        due(told("name", names.length + ", 0"), tree.name(names.length, 0), PathTree.NONE);
        count(3, names.length);
    }

    private void pathIsEmpty(String call, String path) {
        due(told("the path's length behind " + call, path), tree.count(5), 0);
    }

    private String told(String call, String argument) {
        return title + ": " + call + "(" + argument + ")";
    }
}
