/**
 * What there may be at most. The bounds of entries and bytes are reached by no 512 calls, and the
 * document leaves later answers free; as it names them all the same, the class keeps them, and these
 * tests make more calls.
 */
public final class BoundsTest {
    private static final int NONE = PathTree.NONE;

    public static void main(String[] args) {
        Run.all(
            BoundsTest::mostEntriesOf512Calls,
            BoundsTest::mostBytesOf512Calls,
            BoundsTest::deepestOf512Calls,
            BoundsTest::lessThan300,
            BoundsTest::rootCounts,
            BoundsTest::fullTreeStillOpensAndMoves,
            BoundsTest::placeOfRemovedFileIsFree,
            BoundsTest::placeOfReplacedFileIsFree,
            BoundsTest::fileOf16384Bytes,
            BoundsTest::allOf65536Bytes,
            BoundsTest::bytesBeyondAreLost,
            BoundsTest::bytesBeyondAllAreLost,
            BoundsTest::roomComesBack);
    }

    private static void mostEntriesOf512Calls() {
        Run run = new Run("An object is used for at most 512 calls, of entries");
        for (int i = 0; i < 255; i++) {
            if (i % 2 == 0) {
                run.make("" + (1000 + i), true);
            } else {
                run.open("" + (1000 + i), true);
            }
        }
        run.name(254, 3, '4');
        run.count(3, 255);
        Run.due("calls", run.calls(), 512);
    }

    private static void mostBytesOf512Calls() {
        Run run = new Run("An object is used for at most 512 calls, of bytes");
        run.open("f", true);
        for (int i = 1; i <= 508; i++) {
            run.write("12345678", 8 * i);
        }
        run.byteAt(4063, '8');
        run.byteAt(4064, NONE);
        Run.due("calls", run.calls(), 512);
    }

    private static void deepestOf512Calls() {
        Run run = new Run("An object is used for at most 512 calls, of depth");
        for (int i = 0; i < 127; i++) {
            run.make("s", true);
            run.go("s", true);
        }
        run.count(4, 127);
        run.count(1, 128);
        run.go("/", true);
        Run.due("calls", run.calls(), 512);
    }

    /** A root with 299 entries: the directories d2, d4 .. d298, the files f1, f3 .. f299. */
    private static Run full(String sentence) {
        Run run = Run.ofManyCalls(sentence);
        for (int i = 1; i < 300; i++) {
            if (i % 2 == 0) {
                run.make("d" + i, true);
            } else {
                run.open("f" + i, true);
            }
        }
        return run;
    }

    private static void lessThan300() {
        Run run = full("there are less than 300 files and directories");
        run.make("h", false);
        run.make("d2/h", false);
        run.open("h", false);
        run.noneIsOpen();
        run.open("d2/h", false);
        run.totals(150, 150, 0);
        run.count(3, 299);
    }

    private static void rootCounts() {
        Run run = Run.ofManyCalls("(the root counts)");
        for (int i = 1; i < 300; i++) {
            run.make("d" + i, true);
        }
        run.count(1, 300);
        run.make("h", false);
        run.open("h", false);
        run.totals(0, 300, 0);
    }

    private static void fullTreeStillOpensAndMoves() {
        Run run = full("can be MADE if there are less than 300, but nothing is made");
        run.open("f1", true);
        run.write("a", 1);
        run.move("d2", true);
        run.move("h", true);
        run.go("d2", true);
        run.lists();
        run.holds("a");
        run.totals(150, 150, 1);
    }

    private static void placeOfRemovedFileIsFree() {
        Run run = full("there are less than 300, one having been removed");
        run.remove("f3", true);
        run.make("h", true);
        run.make("i", false);
        run.remove("f299", true);
        run.open("i", true);
        run.open("j", false);
        run.totals(149, 151, 0);
    }

    private static void placeOfReplacedFileIsFree() {
        Run run = full("there are less than 300, one having gone by move");
        run.open("f1", true);
        run.move("f5", true);
        run.totals(149, 150, 0);
        run.make("h", true);
        run.make("i", false);
    }

    private static void fill(Run run, String path, int bytes) {
        run.open(path, true);
        for (int i = 8; i <= bytes; i += 8) {
            run.write("12345678", i);
        }
    }

    private static void fileOf16384Bytes() {
        Run run = Run.ofManyCalls("Files have up to 16384 bytes");
        fill(run, "f", 16384);
        run.write("x", 16384);
        run.write("abcdefgh", 16384);
        run.write(0, 0, 16384);
        run.byteAt(16383, '8');
        run.byteAt(16384, NONE);
        run.count(6, 16384);
        run.totals(1, 1, 16384);
        run.open("g", true);
        run.write("x", 1);
        run.totals(2, 1, 16385);
    }

    private static void allOf65536Bytes() {
        Run run = Run.ofManyCalls("all together up to 65536");
        for (int i = 1; i <= 4; i++) {
            fill(run, "f" + i, 16384);
        }
        run.totals(4, 1, 65536);
        run.open("g", true);
        run.write("x", 0);
        run.write("abcdefgh", 0);
        run.holds("");
        run.totals(5, 1, 65536);
    }

    private static void bytesBeyondAreLost() {
        for (int room = 1; room <= 7; room++) {
            Run run = Run.ofManyCalls("bytes beyond are lost, as many as have no room, of a file with room for " + room);
            fill(run, "f", 16376);
            run.write("12345678".substring(room), 16384 - room);
            run.write("abcdefgh", 16384);
            for (int i = 0; i < room; i++) {
                run.byteAt(16384 - room + i, 'a' + i);
            }
            run.byteAt(16383 - room, '8');
            run.byteAt(16384, NONE);
            run.totals(1, 1, 16384);
        }
    }

    private static void bytesBeyondAllAreLost() {
        Run run = Run.ofManyCalls("bytes beyond are lost, as many as have no room, of all files");
        for (int i = 1; i <= 3; i++) {
            fill(run, "f" + i, 16384);
        }
        fill(run, "g", 16376);
        run.open("h", true);
        run.write("abc", 3);
        run.write("defghijk", 8);
        run.write("x", 8);
        run.holds("abcdefgh");
        run.totals(5, 1, 65536);
        run.open("g", true);
        run.write("x", 16376);
    }

    private static void roomComesBack() {
        Run run = Run.ofManyCalls("those that have room, behind empty, remove and move");
        for (int i = 1; i <= 4; i++) {
            fill(run, "f" + i, 16384);
        }
        run.open("g", true);
        run.write("x", 0);
        run.remove("f1", true);
        run.write("x", 1);
        run.count(2, 49153);
        run.open("f2", true);
        run.empty(16384);
        run.count(2, 32769);
        run.write("abcdefgh", 8);
        run.open("g", true);
        run.move("f3", true);
        run.totals(3, 1, 16393);
        run.holds("x");
        fill(run, "h", 16384);
        fill(run, "i", 16384);
        fill(run, "j", 16368);
        run.write("abcdefgh", 16375);
        run.totals(6, 1, 65536);
    }
}
