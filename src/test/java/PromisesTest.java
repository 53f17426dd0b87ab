/** Each promise of the document: ordinary inputs, the edges that it names, and wrong inputs. */
public final class PromisesTest {
    private static final int NONE = PathTree.NONE;

    public static void main(String[] args) {
        newObject();
        path();
        pathLength();
        find();
        findBehindFiles();
        make();
        namesThatCanBe();
        go();
        open();
        empty();
        write();
        byteAt();
        remove();
        removeOpenFile();
        moveToName();
        moveIntoDirectory();
        moveOverFile();
        moveRefused();
        name();
        count();
        Run.finish();
    }

    private static void newObject() {
        Run run = new Run("promise 1");
        Run.due("NONE", PathTree.NONE, -1);
        int[] counts = {0, 1, 0, 0, 0, 0, NONE};
        for (int what = 0; what < counts.length; what++) {
            run.count(what, counts[what]);
        }
        run.lists();
        run.find("/", 2);
        run.find(".", 2);
        Run other = new Run("promise 1, another object");
        run.make("a", true);
        run.type("b");
        other.count(1, 1);
        other.count(5, 0);
    }

    private static void path() {
        Run run = new Run("promise 2");
        PathTree tree = run.tree;
        Run.due("path of 0 bytes", tree.path(-1L, 0), 0);
        Run.due("path, higher bytes do not count", tree.path(0x8000000000006162L, 2), 2);
        Run.due("path of 8 bytes", tree.path(Run.packed("cdefghij"), 8), 10);
        Run.due("path of 9 bytes", tree.path(Run.packed("cdefghij"), 9), NONE);
        Run.due("path of -1 bytes", tree.path(Run.packed("c"), -1), NONE);
        Run.due("path, smallest n", tree.path(Run.packed("c"), Integer.MIN_VALUE), NONE);
        Run.due("path, greatest n", tree.path(Run.packed("c"), Integer.MAX_VALUE), NONE);
        for (int c = 0; c < 256; c++) {
            boolean fits = c == 9 || c == 10 || c >= 32 && c <= 126;
            int before = tree.count(5);
            Run.due("path of character " + c, new PathTree().path(c, 1), fits ? 1 : NONE);
            if (!fits) {
                Run.due("path, the highest is wrong", tree.path((long) c << 16 | 0x6161, 3), NONE);
                Run.due("path, the middle is wrong", tree.path((long) c << 8 | 0x610061, 3), NONE);
            }
            run.count(5, before);
        }
        Run.due("make", tree.make(), true);
        run.lists("abcdefghij");
        run.make("\t\n ~!", true);
        run.lists("\t\n ~!", "abcdefghij");
    }

    private static void pathLength() {
        Run run = new Run("promise 2, length");
        run.type("/".repeat(248));
        Run.due("path to 251", run.tree.path(Run.packed("abc"), 3), NONE);
        run.count(5, 248);
        Run.due("path to 250", run.tree.path(Run.packed("ab"), 2), 250);
        Run.due("path at 250 of 0", run.tree.path(0, 0), 250);
        Run.due("path at 250 of 1", run.tree.path(Run.packed("c"), 1), NONE);
        Run.due("make by 250 characters", run.tree.make(), true);
        run.lists("ab");
    }

    private static Run sample(String title) {
        Run run = new Run(title);
        run.make("d", true);
        run.make("d/e", true);
        run.open("d/f", true);
        run.write("abc", 3);
        run.open("g", true);
        return run;
    }

    private static void find() {
        Run run = sample("promise 3");
        for (String path : new String[] {"/", "//", ".", "./", "..", "../..", "d", "d/", "d//", "/d", "//d", "./d/.",
            "d/..", "d/e", "d//e/", "d/./e", "d/e/../..", "d/e/../../d", "/../d"}) {
            run.find(path, 2);
        }
        for (String path : new String[] {"g", "/g", "d/f", "d//f", "d/e/../f", "./g", "../g"}) {
            run.find(path, 1);
        }
        for (String path : new String[] {"", "x", "x/", "x/..", "d/x", "e", "f", "D", "dd", "d ", " d", "...", "d/...",
            "x/../d", "/f", "d/ge"}) {
            run.find(path, 0);
        }
        run.go("d/e", true);
        run.find("../f", 1);
        run.find("f", 0);
        run.find("/g", 1);
        run.find("../../d/e", 2);
    }

    private static void findBehindFiles() {
        Run run = sample("promise 3, behind files");
        for (String path : new String[] {"g/", "g//", "g/.", "g/..", "g/g", "g//g", "g/../g", "g//../d", "d/f/", "d/f/../e"}) {
            run.find(path, 0);
            run.make(path, false);
            run.go(path, false);
            run.remove(path, false);
        }
    }

    private static void make() {
        Run run = sample("promise 4");
        run.make("", false);
        run.make("d", false);
        run.make("g", false);
        run.make("/", false);
        run.make(".", false);
        run.make("..", false);
        run.make("d/.", false);
        run.make("d/..", false);
        run.make("h/", false);
        run.make("h/i", false);
        run.make("g/i", false);
        run.make("g//i", false);
        run.make("h/../i", false);
        run.count(1, 3);
        run.make("/h", true);
        run.make("d/e/../i", true);
        run.make("d/e//i", true);
        run.make("//j", true);
        run.make("...", true);
        run.make(".d", true);
        run.count(1, 9);
        run.lists("...", ".d", "d", "g", "h", "j");
        run.go("d", true);
        run.lists("e", "f", "i");
        run.make("k", true);
        run.make("/k", true);
        run.make("../l", true);
        run.lists("e", "f", "i", "k");
        run.go("/", true);
        run.lists("...", ".d", "d", "g", "h", "j", "k", "l");
    }

    private static void namesThatCanBe() {
        Run run = new Run("promises 4 and 6, long names");
        String longest = "n".repeat(60);
        run.make(longest + "n", false);
        run.open(longest + "n", false);
        run.make("/" + longest + "n", false);
        run.make(longest, true);
        run.open(longest + "/" + longest, true);
        run.open(longest + "/" + longest + "n", false);
        run.lists(longest);
        run.find(longest + "n", 0);
        run.find(longest.substring(1), 0);
    }

    private static void go() {
        Run run = sample("promise 5");
        run.go("", false);
        run.go("x", false);
        run.go("g", false);
        run.go("d/f", false);
        run.count(4, 0);
        run.go("d/", true);
        run.count(4, 1);
        run.go("g", false);
        run.go("d", false);
        run.count(4, 1);
        run.lists("e", "f");
        run.go("e", true);
        run.count(4, 2);
        run.go(".", true);
        run.count(4, 2);
        run.go("..", true);
        run.count(4, 1);
        run.go("/", true);
        run.count(4, 0);
        run.go("..", true);
        run.count(4, 0);
        run.count(6, 0);
    }

    private static void open() {
        Run run = new Run("promise 6");
        run.open("", false);
        run.open("f", true);
        run.count(0, 1);
        run.write("ab", 2);
        run.open("g", true);
        run.holds("");
        run.open("./f", true);
        run.holds("ab");
        run.count(0, 2);
        run.make("d", true);
        run.holds("ab");
        for (String path : new String[] {"d", "", "/", ".", "..", "f/", "h/", "f/h", "x/h", "d/", "d/..", "d/."}) {
            run.open("f", true);
            run.open(path, false);
            run.count(6, NONE);
        }
        run.count(0, 2);
        run.count(1, 2);
        run.open("d/f", true);
        run.holds("");
        run.count(0, 3);
    }

    private static void empty() {
        Run run = new Run("promise 7");
        Run.due("empty without a file", run.tree.empty(), NONE);
        run.open("f", true);
        Run.due("empty of nothing", run.tree.empty(), 0);
        run.write("abcde", 5);
        run.open("g", true);
        run.write("xyz", 3);
        Run.due("empty", run.tree.empty(), 3);
        Run.due("empty again", run.tree.empty(), 0);
        run.holds("");
        run.count(2, 5);
        run.write("u", 1);
        run.holds("u");
        run.open("f", true);
        run.holds("abcde");
        run.open("/", false);
        Run.due("empty behind a failed open", run.tree.empty(), NONE);
        run.find("g", 1);
    }

    private static void write() {
        Run run = new Run("promise 8");
        PathTree tree = run.tree;
        Run.due("write without a file", tree.write(0, 0), NONE);
        run.open("f", true);
        Run.due("write of 9", tree.write(-1, 9), NONE);
        Run.due("write of -1", tree.write(-1, -1), NONE);
        Run.due("write, smallest n", tree.write(-1, Integer.MIN_VALUE), NONE);
        Run.due("write, greatest n", tree.write(-1, Integer.MAX_VALUE), NONE);
        run.holds("");
        Run.due("write of 0", tree.write(-1, 0), 0);
        Run.due("write of 8", tree.write(0xFF00017F80FE4142L, 8), 8);
        Run.due("write of 2", tree.write(0x1234567890ABCDEFL, 2), 10);
        Run.due("write of 0 behind others", tree.write(-1, 0), 10);
        run.holds("\u00FF\u0000\u0001\u007F\u0080\u00FE\u0041\u0042\u00CD\u00EF");
        run.count(2, 10);
        StringBuilder all = new StringBuilder();
        run.open("g", true);
        for (int i = 0; i < 100; i++) {
            String part = "part" + (1000 + i);
            all.append(part);
            run.write(part, all.length());
        }
        run.holds(all.toString());
        run.count(2, 810);
    }

    private static void byteAt() {
        Run run = new Run("promise 9");
        Run.due("byteAt without a file", run.tree.byteAt(0), NONE);
        run.open("f", true);
        Run.due("byteAt of an empty file", run.tree.byteAt(0), NONE);
        run.write("abc", 3);
        for (int i : new int[] {-1, 3, 15, 16, 20000, Integer.MIN_VALUE, Integer.MAX_VALUE}) {
            Run.due("byteAt(" + i + ")", run.tree.byteAt(i), NONE);
        }
        run.holds("abc");
        run.tree.empty();
        Run.due("byteAt behind empty", run.tree.byteAt(0), NONE);
        run.write("z", 1);
        run.holds("z");
        run.open("", false);
        Run.due("byteAt behind a failed open", run.tree.byteAt(0), NONE);
    }

    private static void remove() {
        Run run = sample("promise 10");
        run.remove("", false);
        run.remove("d", false);
        run.remove("/", false);
        run.remove(".", false);
        run.remove("x", false);
        run.remove("d/f/", false);
        run.remove("f", false);
        run.count(0, 2);
        run.count(2, 3);
        run.remove("d/f", true);
        run.find("d/f", 0);
        run.remove("d/f", false);
        run.count(0, 1);
        run.count(1, 3);
        run.count(2, 0);
        run.write("q", 1);
        run.open("d/f", true);
        run.holds("");
        run.go("d", true);
        run.open("a", true);
        run.open("z", true);
        run.remove("e/../f", true);
        run.lists("a", "e", "z");
        run.remove("a", true);
        run.remove("z", true);
        run.lists("e");
    }

    private static void removeOpenFile() {
        Run run = new Run("promises 7 to 11, the open file is removed");
        run.open("f", true);
        run.write("abc", 3);
        run.remove("f", true);
        run.holds("");
        run.count(2, 0);
        run.write("abc", 0);
        run.write("", 0);
        run.holds("");
        Run.due("write of 9", run.tree.write(0, 9), NONE);
        Run.due("empty", run.tree.empty(), 0);
        run.move("g", false);
        run.move("f", false);
        run.lists();
        run.open("f", true);
        run.write("d", 1);
        run.holds("d");
        run.count(0, 1);
    }

    private static void moveToName() {
        Run run = sample("promise 11");
        run.write("xy", 2);
        run.move("h", true);
        run.lists("d", "h");
        run.move("d/a", true);
        run.lists("d");
        run.move("d/e/../i", true);
        run.go("d", true);
        run.lists("e", "f", "i");
        run.move("/c", true);
        run.lists("e", "f");
        run.move("../b", true);
        run.go("/", true);
        run.lists("b", "d");
        run.holds("xy");
        run.count(0, 2);
        run.count(2, 5);
        run.move("n".repeat(60), true);
        run.lists("d", "n".repeat(60));
        run.open("b", true);
        run.holds("");
    }

    private static void moveIntoDirectory() {
        Run run = sample("promise 11, into a directory");
        run.write("xy", 2);
        run.move("d", true);
        run.lists("d");
        run.move("d/e/", true);
        run.find("d/g", 0);
        run.find("d/e/g", 1);
        run.go("d/e", true);
        run.lists("g");
        run.move("..", true);
        run.lists();
        run.move("/", true);
        run.move(".", true);
        run.lists("g");
        run.holds("xy");
        run.count(0, 2);
        run.move("/d/h", true);
        run.move("/d/e", true);
        run.lists("h");
    }

    private static void moveOverFile() {
        Run run = sample("promise 11, over a file");
        run.write("xy", 2);
        run.count(2, 5);
        run.move("d/f", true);
        run.count(0, 1);
        run.count(2, 2);
        run.lists("d");
        run.holds("xy");
        run.write("z", 3);
        run.open("f", true);
        run.write("1234", 4);
        run.move("d", true);
        run.count(0, 1);
        run.count(2, 4);
        run.lists("d");
        run.open("d/f", true);
        run.holds("1234");
        run.go("d", true);
        run.lists("e", "f");
    }

    private static void moveRefused() {
        Run run = sample("promise 11, refused");
        run.write("xy", 2);
        run.make("d/g", true);
        for (String path : new String[] {"", "g", "./g", "d/../g", "/", ".", "..", "d/..", "x/", "x/h", "g/", "g/h", "g//h",
            "g/.", "g/..", "x/.", "d/f/", "d/f/h", "n".repeat(61), "d", "d/", "d/e/" + "n".repeat(61)}) {
            run.move(path, false);
            run.holds("xy");
        }
        run.lists("d", "g");
        run.count(0, 2);
        run.count(2, 5);
        run.open("/", false);
        run.move("h", false);
        run.lists("d", "g");
    }

    private static void name() {
        Run run = new Run("promise 12");
        for (String path : new String[] {"b", "ab", "B", "a", "abc", "~", " ", "aa", "\t", "a b", "-"}) {
            run.make(path, true);
        }
        run.open("ac", true);
        run.open("A", true);
        run.lists("\t", " ", "-", "A", "B", "a", "a b", "aa", "ab", "abc", "ac", "b", "~");
        for (int wrong : new int[] {-1, 13, 1000, Integer.MIN_VALUE, Integer.MAX_VALUE}) {
            Run.due("name(" + wrong + ", 0)", run.tree.name(wrong, 0), NONE);
            Run.due("name(0, " + wrong + ")", run.tree.name(0, wrong), NONE);
        }
        run.move("abb", true);
        run.remove("ac", true);
        run.lists("\t", " ", "-", "B", "a", "a b", "aa", "ab", "abb", "abc", "b", "~");
        run.go("a", true);
        run.lists();
    }

    private static void count() {
        Run run = sample("promise 13");
        run.write("xy", 2);
        run.go("d", true);
        run.type("abc");
        int[] counts = {2, 3, 5, 2, 1, 3, 2};
        for (int what = 0; what < counts.length; what++) {
            run.count(what, counts[what]);
        }
        for (int what : new int[] {-1, 7, 8, 256, Integer.MIN_VALUE, Integer.MAX_VALUE}) {
            run.count(what, NONE);
        }
        run.tree.find();
        run.open(".", false);
        run.count(6, NONE);
        for (int depth = 1; depth <= 100; depth++) {
            run.count(4, depth);
            run.make("sub", true);
            run.go("sub", true);
        }
    }
}
