/** The sentences of the document's "Terms", each by a test of its own; those of the bounds stand in BoundsTest. */
public final class TermsTest {
    private static final String LONGEST_NAME = "n".repeat(60);

    public static void main(String[] args) {
        Run.all(
            TermsTest::textsOfUpTo250,
            TermsTest::charactersOfPaths,
            TermsTest::charactersStayWhatTheyAre,
            TermsTest::fromTheRootOrFromAtHand,
            TermsTest::namesBetweenSlashes,
            TermsTest::emptyNames,
            TermsTest::dot,
            TermsTest::dotDot,
            TermsTest::dotDotOfTheRoot,
            TermsTest::otherNames,
            TermsTest::behindFiles,
            TermsTest::behindNothing,
            TermsTest::endsWithSlash,
            TermsTest::emptyPath,
            TermsTest::lastNameBehindSlash,
            TermsTest::lastNameWithoutSlash,
            TermsTest::homeOfTheRest,
            TermsTest::homeWithoutSlash,
            TermsTest::homeOfOnlySlash,
            TermsTest::homeIsThere,
            TermsTest::nameOfNoCharacters,
            TermsTest::nameOfOneCharacter,
            TermsTest::nameOf60Characters,
            TermsTest::nameOf61Characters,
            TermsTest::nameIsNoDots,
            TermsTest::namesNearDots,
            TermsTest::noEntryThere);
    }

    private static void textsOfUpTo250() {
        Run run = new Run("PATHS: texts of up to 250 characters");
        run.type("/".repeat(246) + "abcd");
        run.count(5, 250);
        run.make("", true);
        run.lists("abcd");
        run.type("/".repeat(250));
        run.pathRefused('/', 1);
        run.find("", 2);
    }

    private static boolean isOfPaths(int c) {
        return c == 9 || c == 10 || c >= 32 && c <= 126;
    }

    private static void charactersOfPaths() {
        Run run = new Run("characters 9, 10, 32 .. 126");
        for (int c = 0; c < 256; c++) {
            if (isOfPaths(c)) {
                run.path(c, 1, "" + (char) c);
            } else {
                run.pathRefused(c, 1);
            }
        }
        run.count(5, 97);
    }

    private static void charactersStayWhatTheyAre() {
        Run run = new Run("characters 9, 10, 32 .. 126, as names");
        int k = 0;
        for (char c = 0; c < 127; c++) {
            if (isOfPaths(c) && c != '.' && c != '/') {
                run.make("" + c, true);
                run.name(k, 0, c);
                k++;
            }
        }
        run.count(3, 95);
    }

    private static void fromTheRootOrFromAtHand() {
        Run run = new Run("they go from the root if they begin with / , else from the DIRECTORY AT HAND");
        run.make("a", true);
        run.make("b", true);
        run.open("a/b", true);
        run.find("b", 2);
        run.find("/b", 2);
        run.find("a/b", 1);
        run.go("a", true);
        run.find("b", 1);
        run.find("/b", 2);
        run.find("a/b", 0);
        run.find("/a/b", 1);
        run.find("a", 0);
        run.find("/a", 2);
    }

    private static void namesBetweenSlashes() {
        Run run = new Run("NAMES lie between /");
        run.make("a b", true);
        run.make("a b/c\\d", true);
        run.make("a b/c\\d/\t:\n", true);
        run.find("a b/c\\d/\t:\n", 2);
        run.find("a", 0);
        run.find("a b/c", 0);
        run.lists("a b");
        run.go("a b", true);
        run.lists("c\\d");
        run.go("c\\d", true);
        run.lists("\t:\n");
    }

    private static void emptyNames() {
        Run run = Run.ofSample("an empty name stands for where one is");
        for (String path : new String[] {"/", "//", "///", "//d", "d//", "d///", "d//e", "d///e//", "//d//e"}) {
            run.find(path, 2);
        }
        run.find("//g", 1);
        run.find("d//f", 1);
        run.find("///d///f", 1);
        run.find("d//g", 0);
        run.find("d//d", 0);
        run.go("d//", true);
        run.lists("e", "f");
    }

    private static void dot() {
        Run run = Run.ofSample(". too");
        for (String path : new String[] {".", "./", "/.", "././.", "d/.", "./d", "d/./e", "d/./././e/."}) {
            run.find(path, 2);
        }
        run.find("./g", 1);
        run.find("d/./f", 1);
        run.find("d/./g", 0);
        run.find("d/./d", 0);
        run.go("d", true);
        run.go(".", true);
        run.lists("e", "f");
    }

    private static void dotDot() {
        Run run = Run.ofSample(".. for the directory that it is in");
        run.find("d/..", 2);
        run.find("d/../g", 1);
        run.find("d/e/../f", 1);
        run.find("d/e/../g", 0);
        run.find("d/e/../../g", 1);
        run.go("d/e", true);
        run.find("../f", 1);
        run.find("../../g", 1);
        run.find("../g", 0);
        run.go("..", true);
        run.lists("e", "f");
        run.go("..", true);
        run.lists("d", "g");
    }

    private static void dotDotOfTheRoot() {
        Run run = Run.ofSample("(the root's is the root itself)");
        for (String path : new String[] {"..", "../", "/..", "../..", "/../../..", "../d", "/../d/e", "d/../../d"}) {
            run.find(path, 2);
        }
        run.find("../g", 1);
        run.find("../../d/f", 1);
        run.go("..", true);
        run.sampleStands();
    }

    private static void otherNames() {
        Run run = Run.ofSample("other names for the entry so called");
        run.make("...", true);
        run.make("gg", true);
        run.find("d", 2);
        run.find("g", 1);
        run.find("gg", 2);
        run.find("...", 2);
        for (String path : new String[] {"D", "dd", "d ", " d", "ggg", "e", "f", "....", "d/...", "d/g", "d/F", "d/ff", "d/\n"}) {
            run.find(path, 0);
        }
    }

    private static void behindFiles() {
        Run run = Run.ofSample("Behind anything that is no directory only empty names lead on");
        for (String path : new String[] {"g/.", "g/..", "g/g", "g/../d", "g/./g", "g//.", "g//..", "g//g", "d/f/..", "d/f/../e"}) {
            run.find(path, 0);
            run.go(path, false);
            run.remove(path, false);
        }
        run.sampleStands();
    }

    private static void behindNothing() {
        Run run = Run.ofSample("Behind anything that is no directory only empty names lead on, behind nothing none");
        for (String path : new String[] {"x//", "x/.", "x/..", "x/../d", "x/./d", "x//d", "d/x/..", "d/x/../e", "x/g"}) {
            run.find(path, 0);
            run.go(path, false);
            run.remove(path, false);
        }
        run.sampleStands();
    }

    private static void endsWithSlash() {
        Run run = Run.ofSample("but a path that ends with / leads to directories alone");
        for (String path : new String[] {"g/", "/g/", "g//", "d/f/", "d/f///", "x/"}) {
            run.find(path, 0);
            run.remove(path, false);
        }
        for (String path : new String[] {"d/", "d//", "/d/e/", "./", "../", "d/../"}) {
            run.find(path, 2);
        }
        run.sampleStands();
        run.open("g/", false);
        run.noneIsOpen();
        run.go("d/", true);
        run.lists("e", "f");
    }

    private static void emptyPath() {
        Run run = Run.ofSample("The empty path leads to nothing");
        run.find("", 0);
        run.make("", false);
        run.go("", false);
        run.remove("", false);
        run.move("", false);
        run.sampleStands();
        run.open("", false);
        run.noneIsOpen();
        run.go("d", true);
        run.find("", 0);
        run.go("", false);
        run.lists("e", "f");
    }

    private static void lastNameBehindSlash() {
        Run run = Run.ofSample("The LAST name of a path is what is behind its last /");
        run.make("d/e/h", true);
        run.open("d//i", true);
        run.go("d", true);
        run.lists("e", "f", "i");
        run.go("e", true);
        run.lists("h");
    }

    private static void lastNameWithoutSlash() {
        Run run = Run.ofSample("(all without one)");
        run.make("hij", true);
        run.open("k l", true);
        run.lists("d", "g", "hij", "k l");
    }

    private static void homeOfTheRest() {
        Run run = Run.ofSample("its HOME the directory to which the rest leads");
        run.make("d/e/../h", true);
        run.make("d/./i", true);
        run.make("/d/e/j", true);
        run.make("//k", true);
        run.make("../l", true);
        run.go("d/e", true);
        run.make("../m", true);
        run.lists("j");
        run.go("..", true);
        run.lists("e", "f", "h", "i", "m");
        run.go("..", true);
        run.lists("d", "g", "k", "l");
    }

    private static void homeWithoutSlash() {
        Run run = Run.ofSample("(without a / the one at hand");
        run.go("d/e", true);
        run.make("h", true);
        run.open("i", true);
        run.lists("h", "i");
        run.go("/", true);
        run.lists("d", "g");
    }

    private static void homeOfOnlySlash() {
        Run run = Run.ofSample("the root if its only / is the first character)");
        run.go("d/e", true);
        run.make("/h", true);
        run.open("/i", true);
        run.move("/j", true);
        run.lists();
        run.go("/", true);
        run.lists("d", "g", "h", "j");
    }

    private static void homeIsThere() {
        Run run = Run.ofSample("can be MADE if its home is there");
        String[] paths = {"x/h", "/x/h", "d/x/h", "x/../h", "g/h", "g//h", "d/f/h", "g/../h"};
        for (String path : paths) {
            run.make(path, false);
            run.move(path, false);
        }
        run.sampleStands();
        for (String path : paths) {
            run.open(path, false);
            run.noneIsOpen();
        }
        run.totals(2, 3, 5);
        run.make("x", true);
        run.make("x/h", true);
    }

    private static void nameOfNoCharacters() {
        Run run = Run.ofSample("the last name has 1 .. 60 characters, none");
        for (String path : new String[] {"", "h/", "d/h/", "/h/", "g/"}) {
            run.make(path, false);
            run.move(path, false);
            run.sampleStands();
            run.open(path, false);
            run.noneIsOpen();
            run.open("g", true);
        }
    }

    private static void nameOfOneCharacter() {
        Run run = Run.ofSample("the last name has 1 .. 60 characters, one");
        run.make("h", true);
        run.open("d/i", true);
        run.move("d/j", true);
        run.lists("d", "g", "h");
        run.go("d", true);
        run.lists("e", "f", "j");
    }

    private static void nameOf60Characters() {
        Run run = new Run("the last name has 1 .. 60 characters, 60");
        run.make(LONGEST_NAME, true);
        run.open(LONGEST_NAME + "/" + LONGEST_NAME, true);
        run.open("f", true);
        run.move(LONGEST_NAME.substring(1) + "m", true);
        run.lists(LONGEST_NAME.substring(1) + "m", LONGEST_NAME);
        run.find(LONGEST_NAME + "/" + LONGEST_NAME, 1);
        run.find(LONGEST_NAME.substring(1), 0);
    }

    private static void nameOf61Characters() {
        Run run = Run.ofSample("the last name has 1 .. 60 characters, 61 and more");
        for (String path : new String[] {LONGEST_NAME + "n", "/" + LONGEST_NAME + "n", "d/" + LONGEST_NAME + "nn", "n".repeat(250)}) {
            run.make(path, false);
            run.move(path, false);
            run.sampleStands();
        }
        run.open(LONGEST_NAME + "n", false);
        run.noneIsOpen();
        run.open("d/" + LONGEST_NAME + "n", false);
        run.totals(2, 3, 5);
    }

    private static void nameIsNoDots() {
        Run run = Run.ofSample("is not . or ..");
        String[] paths = {".", "..", "/.", "/..", "d/.", "d/..", "d/e/.", "d/e/.."};
        for (String path : paths) {
            run.make(path, false);
        }
        for (String path : new String[] {"x/.", "x/..", "g/.", "g/.."}) {
            run.make(path, false);
            run.move(path, false);
        }
        run.sampleStands();
        for (String path : paths) {
            run.open(path, false);
            run.noneIsOpen();
        }
        run.totals(2, 3, 5);
    }

    private static void namesNearDots() {
        Run run = new Run("is not . or .. , but near them");
        for (String name : new String[] {"...", ".a", "a.", "..a", ". ", " ."}) {
            run.make(name, true);
        }
        run.open(".a/..b", true);
        run.lists(" .", ". ", "...", "..a", ".a", "a.");
    }

    private static void noEntryThere() {
        Run run = Run.ofSample("has no entry there");
        for (String path : new String[] {"d", "g", "/d", "d/e", "d/f", "d/../g"}) {
            run.make(path, false);
        }
        run.sampleStands();
        run.open("d", false);
        run.open("d/e", false);
        run.make("d/g", true);
        run.make("e", true);
        run.open("f", true);
        run.totals(3, 5, 5);
    }
}
