import java.util.Arrays;

/** A tree of files and directories held in memory, found by paths, with bounds of what there may be. */
public final class PathTree {
    public static final int NONE = -1;

    private static final int MOST_ENTRIES = 300;
    private static final int MOST_BYTES = 65536;
    private static final int BYTES_OF_A_LONG = 8;

    private final PathText text = new PathText();
    private final Directory root = new Directory(new char[0]);
    private Directory atHand = root;
    /** Null when none is open; a removed file stays open, without a home. */
    private FileEntry opened = null;
    private int files = 0;
    private int directories = 1;
    private int bytesOfAll = 0;

    public PathTree() {
    }

    public int path(long chars, int n) {
        if (!isByteCount(n) || !text.takes(chars, n)) {
            return NONE;
        }
        text.append(chars, n);
        return text.length;
    }

    public int find() {
        Entry found = target();
        text.clear();
        if (found == null) {
            return 0;
        }
        return found instanceof Directory ? 2 : 1;
    }

    public boolean make() {
        Directory home = homeOfNew();
        if (home != null) {
            home.admit(new Directory(text.lastName()));
            directories++;
        }
        text.clear();
        return home != null;
    }

    public boolean go() {
        Entry found = target();
        text.clear();
        if (found instanceof Directory directory) {
            atHand = directory;
            return true;
        }
        return false;
    }

    public boolean open() {
        Entry found = target();
        opened = null;
        if (found instanceof FileEntry file) {
            opened = file;
        } else if (found == null) {
            Directory home = homeOfNew();
            opened = home == null ? null : newFile(home);
        }
        text.clear();
        return opened != null;
    }

    public int empty() {
        if (opened == null) {
            return NONE;
        }
        int lost = opened.length;
        dropBytes(opened);
        return lost;
    }

    public int write(long bytes, int n) {
        if (opened == null || !isByteCount(n)) {
            return NONE;
        }
        if (opened.home != null) {
            int taken = Math.min(n, Math.min(opened.room(), MOST_BYTES - bytesOfAll));
            for (int i = 0; i < taken; i++) {
                opened.append(byteOf(bytes, n - 1 - i));
                bytesOfAll++;
            }
        }
        return opened.length;
    }

    public int byteAt(int i) {
        return opened == null ? NONE : opened.at(i);
    }

    public boolean remove() {
        Entry found = target();
        text.clear();
        if (found instanceof FileEntry file) {
            discard(file);
            return true;
        }
        return false;
    }

    public boolean move() {
        boolean moved = opened != null && opened.home != null && moveToPath(opened);
        text.clear();
        return moved;
    }

    public int name(int k, int i) {
        Entry entry = atHand.entryAt(k);
        if (entry == null || i < 0 || i >= entry.name.length) {
            return NONE;
        }
        return entry.name[i];
    }

    public int count(int what) {
        switch (what) {
            case 0:
                return files;
            case 1:
                return directories;
            case 2:
                return bytesOfAll;
            case 3:
                return atHand.size;
            case 4:
                return atHand.depth();
            case 5:
                return text.length;
            case 6:
                return opened == null ? NONE : opened.length;
            default:
                return NONE;
        }
    }

    private static boolean isByteCount(int n) {
        return n >= 0 && n <= BYTES_OF_A_LONG;
    }

    /** Place 0 is the lowest byte. */
    private static int byteOf(long packed, int place) {
        return (int) (packed >>> (8 * place)) & 255;
    }

    /** What the whole path leads to; null for nothing. */
    private Entry target() {
        if (text.length == 0) {
            return null;
        }
        Entry found = entryBefore(text.length);
        if (text.isSlash(text.length - 1) && !(found instanceof Directory)) {
            return null;
        }
        return found;
    }

    /** The directory in which the path's last name stands or would stand; null if it is not there. */
    private Directory home() {
        int slash = text.lastSlash();
        if (slash < 0) {
            return atHand;
        }
        return entryBefore(slash) instanceof Directory directory ? directory : null;
    }

    /**
     * What the path's characters before end lead to; null for nothing. A path that begins with a
     * slash has an empty name before it, which stays at the root.
     */
    private Entry entryBefore(int end) {
        Entry here = text.isSlash(0) ? root : atHand;
        int from = 0;
        for (int at = 0; at <= end && here != null; at++) {
            if (at == end || text.isSlash(at)) {
                here = step(here, from, at);
                from = at + 1;
            }
        }
        return here;
    }

    /** Where the name from .. to - 1 of the path leads from an entry; null for nowhere. */
    private Entry step(Entry here, int from, int to) {
        if (from == to) {
            return here;
        }
        if (!(here instanceof Directory directory)) {
            return null;
        }
        if (text.isDot(from, to)) {
            return directory;
        }
        if (text.isDotDot(from, to)) {
            return directory.home == null ? directory : directory.home;
        }
        return directory.entryCalled(text.characters, from, to);
    }

    /** The home of the path if a file or directory can be made by it; else null. */
    private Directory homeOfNew() {
        if (files + directories >= MOST_ENTRIES || !text.lastNameCanBe()) {
            return null;
        }
        Directory home = home();
        if (home == null || home.entryCalled(text.characters, text.lastSlash() + 1, text.length) != null) {
            return null;
        }
        return home;
    }

    private FileEntry newFile(Directory home) {
        FileEntry file = new FileEntry(text.lastName());
        home.admit(file);
        files++;
        return file;
    }

    private void dropBytes(FileEntry file) {
        bytesOfAll -= file.length;
        file.length = 0;
    }

    private void discard(FileEntry file) {
        dropBytes(file);
        files--;
        detach(file);
    }

    private static void detach(Entry entry) {
        if (entry.home != null) {
            entry.home.release(entry);
        }
    }

    private boolean moveToPath(FileEntry file) {
        if (target() instanceof Directory directory) {
            return moveInto(directory, file.name, file);
        }
        Directory home = home();
        if (home == null || !text.lastNameCanBe()) {
            return false;
        }
        return moveInto(home, text.lastName(), file);
    }

    private boolean moveInto(Directory home, char[] name, FileEntry file) {
        Entry there = home.entryCalled(name, 0, name.length);
        if (there == file || there instanceof Directory) {
            return false;
        }
        if (there instanceof FileEntry replaced) {
            discard(replaced);
        }
        detach(file);
        file.name = name;
        home.admit(file);
        return true;
    }

    /** The path that is being put together. */
    private static final class PathText {
        private static final int LONGEST = 250;
        private static final int LONGEST_NAME = 60;

        private final char[] characters = new char[LONGEST];
        private int length = 0;

        private boolean takes(long chars, int n) {
            if (n > LONGEST - length) {
                return false;
            }
            for (int place = 0; place < n; place++) {
                if (!isPathCharacter(byteOf(chars, place))) {
                    return false;
                }
            }
            return true;
        }

        private static boolean isPathCharacter(int c) {
            return c == 9 || c == 10 || (c >= 32 && c <= 126);
        }

        private void append(long chars, int n) {
            for (int place = n - 1; place >= 0 && length < LONGEST; place--) {
                characters[length] = (char) byteOf(chars, place);
                length++;
            }
        }

        private void clear() {
            length = 0;
        }

        private boolean is(char c, int at) {
            return at >= 0 && at < length && characters[at] == c;
        }

        private boolean isSlash(int at) {
            return is('/', at);
        }

        private boolean isDot(int from, int to) {
            return to - from == 1 && is('.', from);
        }

        private boolean isDotDot(int from, int to) {
            return to - from == 2 && is('.', from) && is('.', from + 1);
        }

        /** -1 without a slash. */
        private int lastSlash() {
            int at = length - 1;
            while (at >= 0 && !isSlash(at)) {
                at--;
            }
            return at;
        }

        private boolean lastNameCanBe() {
            int from = lastSlash() + 1;
            int size = length - from;
            return size >= 1 && size <= LONGEST_NAME && !isDot(from, length) && !isDotDot(from, length);
        }

        private char[] lastName() {
            return Arrays.copyOfRange(characters, lastSlash() + 1, length);
        }
    }

    private abstract static class Entry {
        char[] name;
        /** The directory that it is in; null for the root and for a removed file. */
        Directory home = null;
        /** The entry behind it in the same directory. */
        Entry next = null;

        Entry(char[] name) {
            this.name = name;
        }

        /** Below, at or above 0 as the name comes before, is, or comes behind the characters from .. to - 1. */
        final int order(char[] characters, int from, int to) {
            int size = to - from;
            for (int i = 0; i < name.length && i < size; i++) {
                if (name[i] != characters[from + i]) {
                    return name[i] - characters[from + i];
                }
            }
            return name.length - size;
        }
    }

    private static final class Directory extends Entry {
        /** The head of the chain of its entries, which is kept in the order of their names. */
        private Entry first = null;
        private int size = 0;

        private Directory(char[] name) {
            super(name);
        }

        private Entry entryCalled(char[] characters, int from, int to) {
            for (Entry entry = first; entry != null; entry = entry.next) {
                if (entry.order(characters, from, to) == 0) {
                    return entry;
                }
            }
            return null;
        }

        private Entry entryAt(int k) {
            if (k < 0 || k >= size) {
                return null;
            }
            Entry entry = first;
            for (int i = 0; i < k && entry != null; i++) {
                entry = entry.next;
            }
            return entry;
        }

        private int depth() {
            int above = 0;
            for (Directory directory = home; directory != null; directory = directory.home) {
                above++;
            }
            return above;
        }

        private void admit(Entry entry) {
            Entry before = null;
            Entry behind = first;
            while (behind != null && behind.order(entry.name, 0, entry.name.length) < 0) {
                before = behind;
                behind = behind.next;
            }
            link(before, entry);
            entry.next = behind;
            entry.home = this;
            size++;
        }

        private void release(Entry entry) {
            Entry before = null;
            Entry here = first;
            while (here != null && here != entry) {
                before = here;
                here = here.next;
            }
            if (here == null) {
                return;
            }
            link(before, here.next);
            here.next = null;
            here.home = null;
            size--;
        }

        /** Lets an entry follow another, or stand first where there is no other. */
        private void link(Entry before, Entry entry) {
            if (before == null) {
                first = entry;
            } else {
                before.next = entry;
            }
        }
    }

    private static final class FileEntry extends Entry {
        private static final int MOST_BYTES_OF_ONE = 16384;
        private static final int FIRST_CAPACITY = 16;

        private byte[] bytes = new byte[FIRST_CAPACITY];
        private int length = 0;

        private FileEntry(char[] name) {
            super(name);
        }

        private int room() {
            return MOST_BYTES_OF_ONE - length;
        }

        private void append(int value) {
            if (length >= MOST_BYTES_OF_ONE) {
                return;
            }
            if (length >= bytes.length) {
                // doubled, so that the arrays left behind take no more room than the bytes held
                bytes = Arrays.copyOf(bytes, 2 * bytes.length);
            }
            bytes[length] = (byte) value;
            length++;
        }

        private int at(int i) {
            return i >= 0 && i < length ? bytes[i] & 255 : NONE;
        }
    }
}
