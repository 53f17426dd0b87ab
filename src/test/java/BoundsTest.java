/**
 * The bounds of entries and bytes. No run of 512 calls reaches them, and the document leaves later
 * answers free; the class keeps them all the same, and never throws.
 */
public final class BoundsTest {
    public static void main(String[] args) {
        entries();
        bytesOfOneFile();
        bytesOfAll();
        Run.finish();
    }

    private static void entries() {
        Run run = new Run("300 entries");
        for (int i = 1; i < 300; i++) {
            if (i % 2 == 0) {
                run.make("d" + i, true);
            } else {
                run.open("f" + i, true);
            }
        }
        run.count(3, 299);
        run.make("more", false);
        run.open("more", false);
        run.open("f1", true);
        run.move("d2", true);
        run.move("g", true);
        run.remove("f3", true);
        run.make("more", true);
        run.make("still more", false);
        run.move("f5", true);
        run.open("still more", true);
        run.open("too many", false);
        run.count(0, 149);
        run.count(1, 151);
    }

    private static void fill(Run run, String path, int bytes) {
        run.open(path, true);
        for (int i = 8; i <= bytes; i += 8) {
            run.write("12345678", i);
        }
    }

    private static void bytesOfOneFile() {
        Run run = new Run("16384 bytes");
        fill(run, "f", 16376);
        run.write("abc", 16379);
        run.write("defghijk", 16384);
        run.write("x", 16384);
        Run.due("the last byte", run.tree.byteAt(16383), 'h');
        Run.due("the byte behind", run.tree.byteAt(16384), PathTree.NONE);
        run.count(2, 16384);
        Run.due("empty", run.tree.empty(), 16384);
        run.write("x", 1);
        run.holds("x");
    }

    private static void bytesOfAll() {
        Run run = new Run("65536 bytes");
        for (int i = 0; i < 3; i++) {
            fill(run, "f" + i, 16384);
        }
        fill(run, "g", 16376);
        run.open("h", true);
        run.write("abc", 3);
        run.write("defghijk", 8);
        run.write("x", 8);
        run.holds("abcdefgh");
        run.count(2, 65536);
        run.open("g", true);
        run.write("x", 16376);
        run.remove("h", true);
        run.count(2, 65528);
        run.write("0123456789".substring(0, 8), 16384);
        run.count(2, 65536);
        run.open("i", true);
        run.write("x", 0);
        run.move("g", true);
        run.write("x", 1);
        run.count(2, 3 * 16384 + 1);
    }
}
