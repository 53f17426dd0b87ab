/** The sentences of promises 10 to 13 (remove, move, name, count), each by a test of its own. */
public final class Promises10To13Test {
    private static final int NONE = PathTree.NONE;
    private static final int[] FAR = {Integer.MIN_VALUE, -300, -2, -1, 300, 65536, Integer.MAX_VALUE};

    public static void main(String[] args) {
        Run.all(
            Promises10To13Test::removeFile,
            Promises10To13Test::removeFromEachPlace,
            Promises10To13Test::removeLeavesOpenFile,
            Promises10To13Test::removeWhatIsNoFile,
            Promises10To13Test::removeEmptiesThePath,
            Promises10To13Test::moveIntoDirectory,
            Promises10To13Test::moveToName,
            Promises10To13Test::moveKeepsTheFile,
            Promises10To13Test::moveOverFile,
            Promises10To13Test::moveOverFileInDirectory,
            Promises10To13Test::moveWithoutFile,
            Promises10To13Test::moveRemovedFile,
            Promises10To13Test::moveWhereNoHomeIs,
            Promises10To13Test::moveToNameThatCannotBe,
            Promises10To13Test::moveToItself,
            Promises10To13Test::moveWhereDirectoryHasTheName,
            Promises10To13Test::moveEmptiesThePath,
            Promises10To13Test::moveRefusedEmptiesThePath,
            Promises10To13Test::nameCharacterByCharacter,
            Promises10To13Test::nameInOrder,
            Promises10To13Test::nameOrderStays,
            Promises10To13Test::nameOfDirectoryAtHand,
            Promises10To13Test::nameOfNoEntry,
            Promises10To13Test::nameOfNoCharacter,
            Promises10To13Test::countFiles,
            Promises10To13Test::countDirectories,
            Promises10To13Test::countBytes,
            Promises10To13Test::countEntriesAtHand,
            Promises10To13Test::countDirectoriesAbove,
            Promises10To13Test::countPath,
            Promises10To13Test::countOpenFile,
            Promises10To13Test::countOpenFileWithoutOne,
            Promises10To13Test::countOthers);
    }

    private static void removeFile() {
        Run run = Run.ofSample("Promise 10: The file to which the path leads goes: true");
        run.remove("d/f", true);
        run.find("d/f", 0);
        run.totals(1, 3, 2);
        run.remove("d/f", false);
        run.open("d/f", true);
        run.holds("");
        run.totals(2, 3, 2);
    }

    private static void removeFromEachPlace() {
        Run run = new Run("Promise 10: The file goes, the first, one between and the last");
        for (String name : new String[] {"c", "a", "e", "b", "d"}) {
            run.open(name, true);
            run.write(name, 1);
        }
        run.remove("c", true);
        run.lists("a", "b", "d", "e");
        run.remove("a", true);
        run.lists("b", "d", "e");
        run.remove("e", true);
        run.lists("b", "d");
        run.totals(2, 1, 2);
        run.holds("d");
        run.remove("b", true);
        run.remove("d", true);
        run.lists();
        run.totals(0, 1, 0);
    }

    private static void removeLeavesOpenFile() {
        Run run = Run.ofSample("Promise 10: The file goes, not the open one");
        run.remove("d/f", true);
        run.holds("xy");
        run.write("z", 3);
        run.find("g", 1);
        run.lists("d", "g");
    }

    private static void removeWhatIsNoFile() {
        Run run = Run.ofSample("Promise 10: false if it leads to none");
        for (String path : new String[] {"", "x", "d", "d/", "d/e", "/", ".", "..", "g/", "d/f/", "g/.", "g/g", "f", "x/g"}) {
            run.remove(path, false);
        }
        run.sampleStands();
    }

    private static void removeEmptiesThePath() {
        Run run = Run.ofSample("Promise 10: The path is empty then");
        for (String path : new String[] {"", "x", "d", "g/"}) {
            run.remove(path, false);
            run.pathIsEmpty();
        }
        run.remove("g", true);
        run.pathIsEmpty();
    }

    private static void moveIntoDirectory() {
        Run run = Run.ofSample("Promise 11: into a directory to which it leads by its own name");
        run.move("d", true);
        run.find("g", 0);
        run.find("d/g", 1);
        run.move("d/e/", true);
        run.find("d/g", 0);
        run.go("d/e", true);
        run.lists("g");
        run.move("..", true);
        run.lists();
        run.move("/", true);
        run.find("/g", 1);
        run.move(".", true);
        run.lists("g");
        run.move("/d/h", true);
        run.move("/d/e/.", true);
        run.lists("h");
        run.holds("xy");
        run.totals(2, 3, 5);
    }

    private static void moveToName() {
        Run run = Run.ofSample("Promise 11: else by its last name in its home");
        run.move("h", true);
        run.lists("d", "h");
        run.move("d/a", true);
        run.lists("d");
        run.move("d/e/../i", true);
        run.go("d", true);
        run.lists("e", "f", "i");
        run.move("k", true);
        run.lists("e", "f", "k");
        run.move("/c", true);
        run.lists("e", "f");
        run.move("../b", true);
        run.go("/", true);
        run.lists("b", "d");
    }

    private static void moveKeepsTheFile() {
        Run run = Run.ofSample("Promise 11: The open file gets the place of the path");
        run.move("d/h", true);
        run.holds("xy");
        run.totals(2, 3, 5);
        run.write("z", 3);
        run.find("g", 0);
        run.open("g", true);
        run.holds("");
        run.open("d/h", true);
        run.holds("xyz");
        run.remove("d/h", true);
        run.holds("");
    }

    private static void moveOverFile() {
        Run run = Run.ofSample("Promise 11: a file that is there goes");
        run.move("d/f", true);
        run.totals(1, 3, 2);
        run.lists("d");
        run.holds("xy");
        run.go("d", true);
        run.lists("e", "f");
        run.open("f", true);
        run.holds("xy");
        run.remove("f", true);
        run.lists("e");
        run.totals(0, 3, 0);
    }

    private static void moveOverFileInDirectory() {
        Run run = Run.ofSample("Promise 11: a file that is there goes, in a directory by its own name");
        run.open("f", true);
        run.write("1234", 4);
        run.move("d", true);
        run.totals(2, 3, 6);
        run.holds("1234");
        run.lists("d", "g");
        run.go("d", true);
        run.lists("e", "f");
        run.open("f", true);
        run.holds("1234");
    }

    private static void moveWithoutFile() {
        Run run = Run.ofSample("Promise 11: false, changing nothing, if none is open");
        run.open("", false);
        for (String path : new String[] {"h", "d", "d/f", "g", "/", ""}) {
            run.move(path, false);
            run.noneIsOpen();
        }
        run.open("g", true);
        run.sampleStands();
        new Run("Promise 11: false if none is open, at first").move("h", false);
    }

    private static void moveRemovedFile() {
        Run run = Run.ofSample("Promise 11: false, changing nothing, if it was removed");
        run.remove("g", true);
        for (String path : new String[] {"h", "g", "d", "d/f", "d/h", "/", ""}) {
            run.move(path, false);
        }
        run.holds("");
        run.lists("d");
        run.totals(1, 3, 3);
        run.make("g", true);
        run.move("h", false);
        run.totals(1, 4, 3);
        run.open("d/f", true);
        run.holds("abc");
    }

    private static void moveWhereNoHomeIs() {
        Run run = Run.ofSample("Promise 11: false, changing nothing, if the home is not there");
        for (String path : new String[] {"x/h", "/x/h", "d/x/h", "x/../h", "g/h", "g//h", "d/f/h", "g/../h", "x/g"}) {
            run.move(path, false);
        }
        run.sampleStands();
    }

    private static void moveToNameThatCannotBe() {
        Run run = Run.ofSample("Promise 11: false, changing nothing, if the name can't be");
        for (String path : new String[] {"", "h/", "d/h/", "d/f/", "g/", "g/.", "g/..", "x/.", "n".repeat(61), "d/" + "n".repeat(61)}) {
            run.move(path, false);
        }
        run.sampleStands();
        run.move("n".repeat(60), true);
        run.lists("d", "n".repeat(60));
    }

    private static void moveToItself() {
        Run run = Run.ofSample("Promise 11: false, changing nothing, if it is itself");
        for (String path : new String[] {"g", "/g", "./g", "d/../g", "//g", "/", ".", "..", "d/.."}) {
            run.move(path, false);
        }
        run.sampleStands();
        run.open("d/f", true);
        run.move("d", false);
        run.move("d/f", false);
        run.holds("abc");
        run.find("d/f", 1);
        run.totals(2, 3, 5);
    }

    private static void moveWhereDirectoryHasTheName() {
        Run run = Run.ofSample("Promise 11: false, changing nothing, if a directory has the name");
        run.make("d/g", true);
        run.make("d/g/g", true);
        for (String path : new String[] {"d", "/d", "d/", "d/g", "d/."}) {
            run.move(path, false);
        }
        run.totals(2, 5, 5);
        run.holds("xy");
        run.lists("d", "g");
        run.find("d/g", 2);
        run.find("d/g/g", 2);
        run.move("d/g/g", true);
        run.find("d/g/g/g", 1);
    }

    private static void moveEmptiesThePath() {
        Run run = Run.ofSample("Promise 11: the path (which is empty then)");
        for (String path : new String[] {"h", "d", "/d/e/", "d/f"}) {
            run.move(path, true);
            run.pathIsEmpty();
        }
    }

    private static void moveRefusedEmptiesThePath() {
        Run run = Run.ofSample("Promise 11: the path (which is empty then), of a false answer");
        for (String path : new String[] {"g", "x/h", "", "h/", "n".repeat(61)}) {
            run.move(path, false);
            run.pathIsEmpty();
        }
        run.remove("g", true);
        run.move("h", false);
        run.pathIsEmpty();
        run.open("", false);
        run.move("h", false);
        run.pathIsEmpty();
    }

    private static void nameCharacterByCharacter() {
        Run run = new Run("Promise 12: The i-th character of the name of the k-th entry");
        run.make("first", true);
        run.open("second", true);
        run.name(0, 0, 'f');
        run.name(0, 4, 't');
        run.name(1, 0, 's');
        run.name(1, 1, 'e');
        run.name(1, 5, 'd');
        run.lists("first", "second");
    }

    private static void nameInOrder() {
        Run run = new Run("Promise 12: the k-th entry, in the order of their characters");
        for (String name : new String[] {"b", "ab", "B", "a", "abc", "~", " ", "aa", "\t", "a b", "-", "\n", "b0", "ba"}) {
            run.make(name, true);
        }
        run.open("ac", true);
        run.open("A", true);
        run.lists("\t", "\n", " ", "-", "A", "B", "a", "a b", "aa", "ab", "abc", "ac", "b", "b0", "ba", "~");
    }

    private static void nameOrderStays() {
        Run run = new Run("Promise 12: in the order of their characters, behind move and remove");
        for (String name : new String[] {"c", "a", "e"}) {
            run.open(name, true);
        }
        run.lists("a", "c", "e");
        run.move("b", true);
        run.lists("a", "b", "c");
        run.move("d", true);
        run.lists("a", "c", "d");
        run.move("Z", true);
        run.lists("Z", "a", "c");
        run.remove("a", true);
        run.lists("Z", "c");
        run.open("a", true);
        run.lists("Z", "a", "c");
    }

    private static void nameOfDirectoryAtHand() {
        Run run = Run.ofSample("Promise 12: of the directory at hand");
        run.lists("d", "g");
        run.go("d", true);
        run.lists("e", "f");
        run.go("e", true);
        run.lists();
        run.go("/", true);
        run.lists("d", "g");
    }

    private static void nameOfNoEntry() {
        Run run = Run.ofSample("Promise 12: NONE when there is none, no such entry");
        for (int k : FAR) {
            run.name(k, 0, NONE);
            run.name(k, k, NONE);
        }
        run.name(1, 0, 'g');
        run.name(2, 0, NONE);
        run.name(3, 0, NONE);
        run.go("d/e", true);
        run.name(0, 0, NONE);
        run.name(-1, 0, NONE);
        run.name(-1, -1, NONE);
    }

    private static void nameOfNoCharacter() {
        Run run = Run.ofSample("Promise 12: NONE when there is none, no such character");
        String longest = "n".repeat(60);
        run.make(longest, true);
        for (int i : FAR) {
            run.name(0, i, NONE);
            run.name(2, i, NONE);
        }
        run.name(0, 0, 'd');
        run.name(0, 1, NONE);
        run.name(2, 59, 'n');
        run.name(2, 60, NONE);
        run.name(2, 61, NONE);
    }

    private static void countFiles() {
        Run run = new Run("Promise 13: what = 0 files");
        run.count(0, 0);
        run.open("f", true);
        run.count(0, 1);
        run.open("f", true);
        run.count(0, 1);
        run.make("d", true);
        run.count(0, 1);
        run.open("d/f", true);
        run.count(0, 2);
        run.move("d/g", true);
        run.count(0, 2);
        run.move("f", true);
        run.count(0, 1);
        run.remove("f", true);
        run.count(0, 0);
    }

    private static void countDirectories() {
        Run run = new Run("Promise 13: 1 directories (with the root)");
        run.count(1, 1);
        run.make("d", true);
        run.count(1, 2);
        run.make("d", false);
        run.count(1, 2);
        run.open("f", true);
        run.count(1, 2);
        run.make("d/d", true);
        run.count(1, 3);
    }

    private static void countBytes() {
        Run run = Run.ofSample("Promise 13: 2 bytes of all");
        run.count(2, 5);
        run.write("12345678", 10);
        run.count(2, 13);
        run.empty(10);
        run.count(2, 3);
        run.write("12", 2);
        run.move("d/f", true);
        run.count(2, 2);
        run.remove("d/f", true);
        run.count(2, 0);
    }

    private static void countEntriesAtHand() {
        Run run = new Run("Promise 13: 3 entries of the directory at hand");
        run.count(3, 0);
        run.make("d", true);
        run.count(3, 1);
        run.open("f", true);
        run.count(3, 2);
        run.make("d/e", true);
        run.count(3, 2);
        run.go("d", true);
        run.count(3, 1);
        run.move("/d", true);
        run.count(3, 2);
        run.remove("f", true);
        run.count(3, 1);
        run.go("/", true);
        run.count(3, 1);
    }

    private static void countDirectoriesAbove() {
        Run run = new Run("Promise 13: 4 how many directories lie above it");
        for (int depth = 0; depth < 100; depth++) {
            run.count(4, depth);
            run.make("s", true);
            run.go("s", true);
        }
        run.go("..", true);
        run.count(4, 99);
        run.go("/", true);
        run.count(4, 0);
        run.go("..", true);
        run.count(4, 0);
    }

    private static void countPath() {
        Run run = new Run("Promise 13: 5 the length of the path");
        run.count(5, 0);
        run.type("a");
        run.count(5, 1);
        run.type("bcdefghi");
        run.count(5, 9);
        run.pathRefused(0, 1);
        run.count(5, 9);
        run.type("/".repeat(241));
        run.count(5, 250);
    }

    private static void countOpenFile() {
        Run run = Run.ofSample("Promise 13: 6 of the open file");
        run.count(6, 2);
        run.write("12345678", 10);
        run.count(6, 10);
        run.open("d/f", true);
        run.count(6, 3);
        run.empty(3);
        run.count(6, 0);
        run.open("g", true);
        run.count(6, 10);
        run.remove("g", true);
        run.count(6, 0);
    }

    private static void countOpenFileWithoutOne() {
        Run run = new Run("Promise 13: (NONE without one)");
        run.count(6, NONE);
        run.open("f", true);
        run.count(6, 0);
        run.open(".", false);
        run.count(6, NONE);
    }

    private static void countOthers() {
        Run run = Run.ofSample("Promise 13: NONE for others");
        for (int what : new int[] {-1, -2, 7, 8, 9, 256, 257, Integer.MIN_VALUE, Integer.MAX_VALUE}) {
            run.count(what, NONE);
        }
        run.sampleStands();
    }
}
