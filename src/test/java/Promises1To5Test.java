/** The sentences of promises 1 to 5 (a new object, path, find, make, go), each by a test of its own. */
public final class Promises1To5Test {
    private static final int NONE = PathTree.NONE;
    private static final int[] NO_BYTE_COUNTS = {-1, 9, 10, 16, 64, 256, 257, -8, -255, Integer.MIN_VALUE, Integer.MAX_VALUE};

    public static void main(String[] args) {
        Run.all(
            Promises1To5Test::rootAlone,
            Promises1To5Test::rootIsAtHand,
            Promises1To5Test::emptyPathAtFirst,
            Promises1To5Test::objectsAreApart,
            Promises1To5Test::pathTakesTheLowestBytes,
            Promises1To5Test::pathTakesTheHighestFirst,
            Promises1To5Test::pathComesBehindThePath,
            Promises1To5Test::pathOfNoBytes,
            Promises1To5Test::pathOfWrongByteCount,
            Promises1To5Test::pathOfNoCharacter,
            Promises1To5Test::pathLooksAtTheLowestBytesAlone,
            Promises1To5Test::pathTooLong,
            Promises1To5Test::pathRefusedChangesNothing,
            Promises1To5Test::findNothing,
            Promises1To5Test::findFile,
            Promises1To5Test::findDirectory,
            Promises1To5Test::findEmptiesThePath,
            Promises1To5Test::makeDirectory,
            Promises1To5Test::makeEmptiesThePath,
            Promises1To5Test::makeWhereSomethingIs,
            Promises1To5Test::makeWhatCannotBe,
            Promises1To5Test::goToDirectory,
            Promises1To5Test::goNowhere,
            Promises1To5Test::goEmptiesThePath);
    }

    private static void rootAlone() {
        Run run = new Run("Promise 1: The root alone");
        Run.due("NONE", NONE, -1);
        run.totals(0, 1, 0);
        run.count(3, 0);
        run.name(0, 0, NONE);
        run.noneIsOpen();
    }

    private static void rootIsAtHand() {
        Run run = new Run("Promise 1: which is at hand");
        run.count(4, 0);
        run.find(".", 2);
        run.make("a", true);
        run.find("/a", 2);
    }

    private static void emptyPathAtFirst() {
        new Run("Promise 1: an empty path").count(5, 0);
        new Run("Promise 1: an empty path").find("", 0);
    }

    private static void objectsAreApart() {
        Run one = new Run("Promise 1: A new object, beside another");
        one.make("a", true);
        one.open("b", true);
        one.write("c", 1);
        one.type("d");
        Run other = new Run("Promise 1: A new object, behind another");
        other.totals(0, 1, 0);
        other.pathIsEmpty();
        other.noneIsOpen();
        other.make("e", true);
        one.lists("a", "b");
        one.holds("c");
    }

    private static void pathTakesTheLowestBytes() {
        Run run = new Run("Promise 2: The n lowest bytes of chars");
        for (int n = 1; n <= 8; n++) {
            String text = "abcdefgh".substring(8 - n);
            run.path(Run.packed("abcdefgh"), n, text);
            run.make("", true);
            run.find(text, 2);
        }
        run.lists("abcdefgh", "bcdefgh", "cdefgh", "defgh", "efgh", "fgh", "gh", "h");
    }

    private static void pathTakesTheHighestFirst() {
        Run run = new Run("Promise 2: the highest of them first");
        run.path(0x7A79787776757473L, 8, "zyxwvuts");
        run.make("", true);
        run.path(0x6162, 2, "ab");
        run.make("", true);
        run.lists("ab", "zyxwvuts");
    }

    private static void pathComesBehindThePath() {
        Run run = new Run("Promise 2: come behind the path: how long it is");
        run.path(Run.packed("abc"), 3, "abc");
        run.path(Run.packed("de"), 2, "de");
        run.path(Run.packed("fghijklm"), 8, "fghijklm");
        run.count(5, 13);
        run.make("", true);
        run.lists("abcdefghijklm");
    }

    private static void pathOfNoBytes() {
        Run run = new Run("Promise 2: n is not 0 .. 8, but 0");
        run.path(0, 0, "");
        run.path(-1, 0, "");
        run.type("ab");
        run.path(Run.packed("c"), 0, "");
        run.make("", true);
        run.lists("ab");
    }

    private static void pathOfWrongByteCount() {
        Run run = new Run("Promise 2: NONE when n is not 0 .. 8");
        for (int n : NO_BYTE_COUNTS) {
            run.pathRefused(Run.packed("abcdefgh"), n);
            run.pathRefused(0, n);
            run.count(5, 0);
        }
        run.path(Run.packed("abcdefgh"), 8, "abcdefgh");
        for (int n : NO_BYTE_COUNTS) {
            run.pathRefused(Run.packed("abcdefgh"), n);
            run.count(5, 8);
        }
    }

    private static void pathOfNoCharacter() {
        for (int c : new int[] {0, 1, 8, 11, 13, 31, 127, 128, 137, 160, 255}) {
            Run run = new Run("Promise 2: NONE when one is no character of a path, " + c);
            for (int place = 0; place < 8; place++) {
                long chars = Run.packed("abcdefgh") & ~(255L << 8 * place) | (long) c << 8 * place;
                run.pathRefused(chars, 8);
                run.pathRefused(chars, place + 1);
                run.count(5, 0);
            }
        }
    }

    private static void pathLooksAtTheLowestBytesAlone() {
        Run run = new Run("Promise 2: one is no character of a path, of the n lowest");
        run.path(0x0061L, 1, "a");
        run.path(0xFF62L, 1, "b");
        run.path(0x8000000000006364L, 2, "cd");
        run.path(0xFF65666768696A6BL, 7, "efghijk");
        run.make("", true);
        run.lists("abcdefghijk");
    }

    private static void pathTooLong() {
        for (int n = 1; n <= 8; n++) {
            Run run = new Run("Promise 2: NONE when it would be longer than 250, by " + n);
            run.type("/".repeat(250 - n + 1));
            run.pathRefused(Run.packed("abcdefgh"), n);
            run.count(5, 250 - n + 1);
            run.type("abcdefgh".substring(0, n - 1));
            run.count(5, 250);
            run.pathRefused(Run.packed("abcdefgh"), n);
            run.path(Run.packed("abcdefgh"), 0, "");
            run.make("", n > 1);
            run.count(3, n > 1 ? 1 : 0);
        }
    }

    private static void pathRefusedChangesNothing() {
        Run run = Run.ofSample("Promise 2: NONE, changing nothing");
        run.type("h");
        run.pathRefused(Run.packed("ab"), -1);
        run.pathRefused(Run.packed("ab"), 9);
        run.pathRefused(0x6100, 2);
        run.pathRefused(0x6162630065L, 5);
        run.count(5, 1);
        run.make("ij", true);
        run.find("hij", 2);
        run.type("/".repeat(248) + "d");
        run.pathRefused(Run.packed("xy"), 2);
        run.count(5, 249);
        run.find("", 2);
        run.lists("d", "g", "hij");
        run.holds("xy");
        run.totals(2, 4, 5);
    }

    private static void findNothing() {
        Run run = Run.ofSample("Promise 3: 0 nothing");
        for (String path : new String[] {"", "x", "/x", "d/x", "x/", "x/d", "g/", "g/g", "f", "e"}) {
            run.find(path, 0);
        }
        run.sampleStands();
    }

    private static void findFile() {
        Run run = Run.ofSample("Promise 3: 1 a file");
        for (String path : new String[] {"g", "/g", "d/f", "/d/f", "d/e/../f"}) {
            run.find(path, 1);
        }
        run.sampleStands();
    }

    private static void findDirectory() {
        Run run = Run.ofSample("Promise 3: 2 a directory");
        for (String path : new String[] {"/", ".", "..", "d", "/d", "d/", "d/e", "d/e/.."}) {
            run.find(path, 2);
        }
        run.sampleStands();
    }

    private static void findEmptiesThePath() {
        Run run = Run.ofSample("Promise 3: the path (which is empty then)");
        run.find("x", 0);
        run.pathIsEmpty();
        run.find("g", 1);
        run.pathIsEmpty();
        run.find("d", 2);
        run.pathIsEmpty();
        run.find("", 0);
        run.pathIsEmpty();
    }

    private static void makeDirectory() {
        Run run = Run.ofSample("Promise 4: A directory is made by the path: true");
        run.make("h", true);
        run.find("h", 2);
        run.make("h/i", true);
        run.find("h/i/", 2);
        run.make("/d/e/j", true);
        run.totals(2, 6, 5);
        run.lists("d", "g", "h");
        run.holds("xy");
        run.count(4, 0);
        run.go("h/i", true);
        run.lists();
        run.count(4, 2);
    }

    private static void makeEmptiesThePath() {
        Run run = Run.ofSample("Promise 4: the path (which is empty then)");
        for (String path : new String[] {"d", "g", "x/h", "", ".", "h/", "n".repeat(61)}) {
            run.make(path, false);
            run.pathIsEmpty();
        }
        run.make("h", true);
        run.pathIsEmpty();
    }

    private static void makeWhereSomethingIs() {
        Run run = Run.ofSample("Promise 4: false if there is something");
        for (String path : new String[] {"d", "/d", "d/", "g", "/g", "d/e", "d/f", "/", ".", "..", "d/."}) {
            run.make(path, false);
        }
        run.sampleStands();
        run.make("h", true);
        run.make("h", false);
        run.totals(2, 4, 5);
    }

    private static void makeWhatCannotBe() {
        Run run = Run.ofSample("Promise 4: or it can't be");
        for (String path : new String[] {"", "x/h", "g/h", "h/", "d/h/", "g/", "g/.", "x/..", "n".repeat(61)}) {
            run.make(path, false);
        }
        run.sampleStands();
    }

    private static void goToDirectory() {
        Run run = Run.ofSample("Promise 5: The directory to which the path leads is at hand: true");
        run.go("d", true);
        run.lists("e", "f");
        run.count(4, 1);
        run.go("e/", true);
        run.lists();
        run.count(4, 2);
        run.go(".", true);
        run.count(4, 2);
        run.go("..", true);
        run.lists("e", "f");
        run.go("/d/e", true);
        run.count(4, 2);
        run.go("/", true);
        run.sampleStands();
        run.go("..", true);
        run.sampleStands();
    }

    private static void goNowhere() {
        Run run = Run.ofSample("Promise 5: false, changing nothing else, if there is none such");
        for (String path : new String[] {"", "x", "x/", "x/..", "g", "g/", "d/f", "g/.", "e"}) {
            run.go(path, false);
        }
        run.sampleStands();
        run.go("d", true);
        for (String path : new String[] {"", "x", "f", "f/", "d", "../g", "/x"}) {
            run.go(path, false);
        }
        run.count(4, 1);
        run.lists("e", "f");
        run.holds("xy");
        run.totals(2, 3, 5);
    }

    private static void goEmptiesThePath() {
        Run run = Run.ofSample("Promise 5: The path is empty then");
        for (String path : new String[] {"", "x", "g", "d/f/"}) {
            run.go(path, false);
            run.pathIsEmpty();
        }
        run.go("d", true);
        run.pathIsEmpty();
    }
}
