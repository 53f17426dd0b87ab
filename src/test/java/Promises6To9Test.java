/** The sentences of promises 6 to 9 (open, empty, write, byteAt), each by a test of its own. */
public final class Promises6To9Test {
    private static final int NONE = PathTree.NONE;
    private static final int[] NO_BYTE_COUNTS = {-1, 9, 10, 16, 64, 256, 257, -8, -255, Integer.MIN_VALUE, Integer.MAX_VALUE};

    public static void main(String[] args) {
        Run.all(
            Promises6To9Test::openFileThatIsThere,
            Promises6To9Test::openNewFile,
            Promises6To9Test::openWhatCannotBe,
            Promises6To9Test::openDirectory,
            Promises6To9Test::openEmptiesThePath,
            Promises6To9Test::emptyLosesAllBytes,
            Promises6To9Test::emptyOfNoBytes,
            Promises6To9Test::emptyWithoutFile,
            Promises6To9Test::emptyOfRemovedFile,
            Promises6To9Test::writeTheLowestBytes,
            Promises6To9Test::writeTheHighestFirst,
            Promises6To9Test::writeToTheEnd,
            Promises6To9Test::writeOfNoBytes,
            Promises6To9Test::writeHowManyItHas,
            Promises6To9Test::writeWithoutFile,
            Promises6To9Test::writeOfWrongByteCount,
            Promises6To9Test::writeToRemovedFile,
            Promises6To9Test::newEntryIsNotTheRemovedFile,
            Promises6To9Test::removedFileHasNoBytes,
            Promises6To9Test::byteAtOfEachValue,
            Promises6To9Test::byteAtOutside,
            Promises6To9Test::byteAtOfEmptyFile,
            Promises6To9Test::byteAtBehindEmpty,
            Promises6To9Test::byteAtWithoutFile,
            Promises6To9Test::byteAtOfRemovedFile);
    }

    private static void openFileThatIsThere() {
        Run run = Run.ofSample("Promise 6: The file to which the path leads is OPEN: true");
        run.open("d/f", true);
        run.holds("abc");
        run.open("g", true);
        run.holds("xy");
        run.open("g", true);
        run.sampleStands();
        run.go("d", true);
        run.open("f", true);
        run.holds("abc");
        run.open("/g", true);
        run.holds("xy");
    }

    private static void openNewFile() {
        Run run = Run.ofSample("Promise 6: made if it leads to nothing");
        run.open("h", true);
        run.holds("");
        run.find("h", 1);
        run.open("d/e/i", true);
        run.holds("");
        run.find("d/e/i", 1);
        run.totals(4, 3, 5);
        run.lists("d", "g", "h");
    }

    private static void openWhatCannotBe() {
        Run run = Run.ofSample("Promise 6: false, none being open, if there can be none");
        for (String path : new String[] {"", "x/h", "g/h", "h/", "g/", "d/f/", "g/.", "g/..", "x/..", "n".repeat(61)}) {
            run.open("g", true);
            run.open(path, false);
            run.noneIsOpen();
            run.empty(NONE);
            run.byteAt(0, NONE);
            run.write("z", NONE);
            run.move("h", false);
        }
        run.open("g", true);
        run.sampleStands();
    }

    private static void openDirectory() {
        Run run = Run.ofSample("Promise 6: (a directory, too)");
        for (String path : new String[] {"d", "d/", "d/e", "/", ".", "..", "d/.", "d/.."}) {
            run.open("g", true);
            run.open(path, false);
            run.noneIsOpen();
            run.write("z", NONE);
        }
        run.open("g", true);
        run.sampleStands();
    }

    private static void openEmptiesThePath() {
        Run run = Run.ofSample("Promise 6: The path is empty then");
        for (String path : new String[] {"", "d", "x/h", "g/", "n".repeat(61)}) {
            run.open(path, false);
            run.pathIsEmpty();
        }
        run.open("g", true);
        run.pathIsEmpty();
        run.open("h", true);
        run.pathIsEmpty();
    }

    private static void emptyLosesAllBytes() {
        Run run = Run.ofSample("Promise 7: The open file loses all its bytes: how many");
        run.write("12345678", 10);
        run.empty(10);
        run.holds("");
        run.totals(2, 3, 3);
        run.write("z", 1);
        run.holds("z");
        run.open("d/f", true);
        run.holds("abc");
        run.empty(3);
        run.open("g", true);
        run.holds("z");
        run.totals(2, 3, 1);
    }

    private static void emptyOfNoBytes() {
        Run run = new Run("Promise 7: how many, of none");
        run.open("f", true);
        run.empty(0);
        run.write("a", 1);
        run.empty(1);
        run.empty(0);
        run.totals(1, 1, 0);
    }

    private static void emptyWithoutFile() {
        Run run = new Run("Promise 7: NONE when none is open");
        run.empty(NONE);
        run.open("f", true);
        run.write("ab", 2);
        run.open("", false);
        run.empty(NONE);
        run.totals(1, 1, 2);
        run.open("f", true);
        run.holds("ab");
    }

    private static void emptyOfRemovedFile() {
        Run run = Run.ofSample("Promises 7 and 8: A file that was removed has no bytes, to lose");
        run.remove("g", true);
        run.empty(0);
        run.empty(0);
        run.totals(1, 3, 3);
    }

    private static void writeTheLowestBytes() {
        Run run = new Run("Promise 8: The n lowest bytes of bytes");
        for (int n = 1; n <= 8; n++) {
            run.open("f" + n, true);
            run.write(0xF1F2F3F4F5F6F7F8L, n, n);
            for (int i = 0; i < n; i++) {
                run.byteAt(i, 0xF8 - n + 1 + i);
            }
            run.byteAt(n, NONE);
        }
        run.totals(8, 1, 36);
    }

    private static void writeTheHighestFirst() {
        Run run = new Run("Promise 8: the highest of them first");
        run.open("f", true);
        run.write(0xFF00017F80FE4142L, 8, 8);
        run.holds("\u00FF\u0000\u0001\u007F\u0080\u00FE\u0041\u0042");
    }

    private static void writeToTheEnd() {
        Run run = new Run("Promise 8: come to its end");
        StringBuilder all = new StringBuilder();
        run.open("f", true);
        for (int i = 0; i < 40; i++) {
            String part = ("p" + (10 + i) + "part").substring(0, 1 + i % 7);
            all.append(part);
            run.write(part, all.length());
        }
        run.holds(all.toString());
        run.open("g", true);
        run.write("z", 1);
        run.open("f", true);
        run.write("q", all.length() + 1);
        run.holds(all + "q");
    }

    private static void writeOfNoBytes() {
        Run run = Run.ofSample("Promise 8: n is not 0 .. 8, but 0");
        run.write(0, 0, 2);
        run.write(-1, 0, 2);
        run.sampleStands();
        run.open("h", true);
        run.write(-1, 0, 0);
        run.holds("");
    }

    private static void writeHowManyItHas() {
        Run run = Run.ofSample("Promise 8: how many it has");
        run.write("1", 3);
        run.write("12345678", 11);
        run.totals(2, 3, 14);
        run.open("d/f", true);
        run.write("1234", 7);
        run.totals(2, 3, 18);
        run.empty(7);
        run.write("12", 2);
        run.totals(2, 3, 13);
    }

    private static void writeWithoutFile() {
        Run run = new Run("Promise 8: NONE when none is open");
        run.write(0, 0, NONE);
        run.write("a", NONE);
        run.write(0, 9, NONE);
        run.totals(0, 1, 0);
        run.open("f", true);
        run.write("a", 1);
        run.open("/", false);
        run.write("b", NONE);
        run.write(0, 0, NONE);
        run.totals(1, 1, 1);
        run.open("f", true);
        run.holds("a");
    }

    private static void writeOfWrongByteCount() {
        Run run = Run.ofSample("Promise 8: NONE when n is not 0 .. 8");
        for (int n : NO_BYTE_COUNTS) {
            run.write(-1, n, NONE);
            run.write(0, n, NONE);
        }
        run.sampleStands();
        run.remove("g", true);
        for (int n : NO_BYTE_COUNTS) {
            run.write(-1, n, NONE);
        }
    }

    private static void newEntryIsNotTheRemovedFile() {
        Run run = Run.ofSample("Promise 8: A file that was removed has no bytes and gets none, another having its place");
        run.remove("g", true);
        run.make("g", true);
        run.make("h", true);
        run.write("a", 0);
        run.holds("");
        run.empty(0);
        run.move("h", false);
        run.find("g", 2);
        run.totals(1, 5, 3);
    }

    private static void removedFileHasNoBytes() {
        Run run = Run.ofSample("Promise 8: A file that was removed has no bytes");
        run.remove("g", true);
        run.count(6, 0);
        run.holds("");
        run.totals(1, 3, 3);
    }

    private static void writeToRemovedFile() {
        Run run = Run.ofSample("Promise 8: and gets none");
        run.remove("g", true);
        run.write("a", 0);
        run.write("12345678", 0);
        run.write(0, 0, 0);
        run.holds("");
        run.totals(1, 3, 3);
        run.open("g", true);
        run.holds("");
        run.write("a", 1);
        run.holds("a");
        run.totals(2, 3, 4);
    }

    private static void byteAtOfEachValue() {
        Run run = new Run("Promise 9: Its i-th byte (0 .. 255)");
        run.open("f", true);
        for (int i = 0; i < 256; i += 8) {
            long bytes = 0;
            for (int k = 0; k < 8; k++) {
                bytes = bytes << 8 | i + k;
            }
            run.write(bytes, 8, i + 8);
        }
        for (int i = 0; i < 256; i++) {
            run.byteAt(i, i);
        }
    }

    private static void byteAtOutside() {
        Run run = Run.ofSample("Promise 9: NONE when there is none");
        for (int i : new int[] {-1, 2, 3, 15, 16, 17, 255, 256, 16383, 16384, 65536, Integer.MIN_VALUE, Integer.MAX_VALUE}) {
            run.byteAt(i, NONE);
        }
        run.byteAt(0, 'x');
        run.byteAt(1, 'y');
        run.sampleStands();
    }

    private static void byteAtOfEmptyFile() {
        Run run = new Run("Promise 9: NONE when there is none, in a new file");
        run.open("f", true);
        run.byteAt(0, NONE);
        run.byteAt(-1, NONE);
    }

    private static void byteAtBehindEmpty() {
        Run run = Run.ofSample("Promise 9: NONE when there is none, behind empty");
        run.empty(2);
        run.byteAt(0, NONE);
        run.byteAt(1, NONE);
        run.write("z", 1);
        run.byteAt(0, 'z');
        run.byteAt(1, NONE);
    }

    private static void byteAtWithoutFile() {
        Run run = new Run("Promise 9: NONE when there is none, no file being open");
        run.byteAt(0, NONE);
        run.byteAt(-1, NONE);
        run.open("f", true);
        run.write("a", 1);
        run.open("x/h", false);
        run.byteAt(0, NONE);
    }

    private static void byteAtOfRemovedFile() {
        Run run = Run.ofSample("Promise 9: NONE when there is none, the file being removed");
        run.remove("g", true);
        run.byteAt(0, NONE);
        run.byteAt(1, NONE);
        run.write("z", 0);
        run.byteAt(0, NONE);
    }
}
